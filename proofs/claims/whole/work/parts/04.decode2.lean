/-! decode rows -/
theorem dX6_ends_4 : decode cX6_ends 4 = .ok (.getfield 13, 3) := by decide +kernel
theorem dX6_ends_7 : decode cX6_ends 7 = .ok (.iconst 1, 1) := by decide +kernel
theorem dX6_ends_8 : decode cX6_ends 8 = .ok (.iaload, 1) := by decide +kernel
theorem dX6_ends_9 : decode cX6_ends 9 = .ok (.if_icmp .ge 61, 3) := by decide +kernel
theorem dX6_ends_12 : decode cX6_ends 12 = .ok (.aload_n 0, 1) := by decide +kernel
theorem dX6_ends_13 : decode cX6_ends 13 = .ok (.getfield 28, 3) := by decide +kernel
theorem dX6_ends_16 : decode cX6_ends 16 = .ok (.iload_n 2, 1) := by decide +kernel
theorem dX6_ends_17 : decode cX6_ends 17 = .ok (.iaload, 1) := by decide +kernel
theorem dX6_ends_18 : decode cX6_ends 18 = .ok (.ifCond .lt 46, 3) := by decide +kernel
theorem dX6_ends_21 : decode cX6_ends 21 = .ok (.aload_n 0, 1) := by decide +kernel
theorem dX6_ends_22 : decode cX6_ends 22 = .ok (.getfield 28, 3) := by decide +kernel
theorem dX6_ends_25 : decode cX6_ends 25 = .ok (.iload_n 2, 1) := by decide +kernel
theorem dX6_ends_26 : decode cX6_ends 26 = .ok (.iaload, 1) := by decide +kernel
theorem dX6_ends_27 : decode cX6_ends 27 = .ok (.iload_n 1, 1) := by decide +kernel
theorem dX6_ends_28 : decode cX6_ends 28 = .ok (.if_icmp .le 6, 3) := by decide +kernel
theorem dX6_ends_31 : decode cX6_ends 31 = .ok (.goto 33, 3) := by decide +kernel
theorem dX6_ends_34 : decode cX6_ends 34 = .ok (.aload_n 0, 1) := by decide +kernel
theorem dX6_ends_35 : decode cX6_ends 35 = .ok (.getfield 28, 3) := by decide +kernel
theorem dX6_ends_38 : decode cX6_ends 38 = .ok (.iload_n 2, 1) := by decide +kernel
theorem dX6_ends_39 : decode cX6_ends 39 = .ok (.bipush (-9), 2) := by decide +kernel
theorem dX6_ends_41 : decode cX6_ends 41 = .ok (.iastore, 1) := by decide +kernel
theorem dX6_ends_42 : decode cX6_ends 42 = .ok (.aload_n 0, 1) := by decide +kernel
theorem dX6_ends_43 : decode cX6_ends 43 = .ok (.dup, 1) := by decide +kernel
theorem dX6_ends_44 : decode cX6_ends 44 = .ok (.getfield 124, 3) := by decide +kernel
theorem dX6_ends_47 : decode cX6_ends 47 = .ok (.aload_n 0, 1) := by decide +kernel
theorem dX6_ends_48 : decode cX6_ends 48 = .ok (.iload_n 2, 1) := by decide +kernel
theorem dX6_ends_49 : decode cX6_ends 49 = .ok (.invokevirtual 112, 3) := by decide +kernel
theorem dX6_ends_52 : decode cX6_ends 52 = .ok (.ifCond .le 7, 3) := by decide +kernel
theorem dX6_ends_55 : decode cX6_ends 55 = .ok (.iconst 1, 1) := by decide +kernel
theorem dX6_ends_56 : decode cX6_ends 56 = .ok (.goto 4, 3) := by decide +kernel
theorem dX6_ends_59 : decode cX6_ends 59 = .ok (.iconst 0, 1) := by decide +kernel
theorem dX6_ends_60 : decode cX6_ends 60 = .ok (.iadd, 1) := by decide +kernel
theorem dX6_ends_61 : decode cX6_ends 61 = .ok (.putfield 124, 3) := by decide +kernel
theorem dX6_ends_64 : decode cX6_ends 64 = .ok (.iinc 2 1, 3) := by decide +kernel
theorem dX6_ends_67 : decode cX6_ends 67 = .ok (.goto (-65), 3) := by decide +kernel
theorem dX6_ends_70 : decode cX6_ends 70 = .ok (.iconst 0, 1) := by decide +kernel
theorem dX6_ends_71 : decode cX6_ends 71 = .ok (.istore_n 2, 1) := by decide +kernel
theorem dX6_ends_72 : decode cX6_ends 72 = .ok (.iload_n 2, 1) := by decide +kernel
theorem dX6_ends_73 : decode cX6_ends 73 = .ok (.bipush 6, 2) := by decide +kernel
theorem dX6_ends_75 : decode cX6_ends 75 = .ok (.if_icmp .ge 49, 3) := by decide +kernel
theorem dX6_ends_78 : decode cX6_ends 78 = .ok (.aload_n 0, 1) := by decide +kernel
theorem dX6_ends_79 : decode cX6_ends 79 = .ok (.getfield 31, 3) := by decide +kernel
theorem dX6_ends_82 : decode cX6_ends 82 = .ok (.iload_n 2, 1) := by decide +kernel
theorem dX6_ends_83 : decode cX6_ends 83 = .ok (.iaload, 1) := by decide +kernel
theorem dX6_ends_84 : decode cX6_ends 84 = .ok (.ifCond .lt 34, 3) := by decide +kernel
theorem dX6_ends_87 : decode cX6_ends 87 = .ok (.aload_n 0, 1) := by decide +kernel
theorem dX6_ends_88 : decode cX6_ends 88 = .ok (.getfield 31, 3) := by decide +kernel
theorem dX6_ends_91 : decode cX6_ends 91 = .ok (.iload_n 2, 1) := by decide +kernel
theorem dX6_ends_92 : decode cX6_ends 92 = .ok (.iaload, 1) := by decide +kernel
theorem dX6_ends_93 : decode cX6_ends 93 = .ok (.iload_n 1, 1) := by decide +kernel
theorem dX6_ends_94 : decode cX6_ends 94 = .ok (.if_icmp .le 6, 3) := by decide +kernel
theorem dX6_ends_97 : decode cX6_ends 97 = .ok (.goto 21, 3) := by decide +kernel
theorem dX6_ends_100 : decode cX6_ends 100 = .ok (.aload_n 0, 1) := by decide +kernel
theorem dX6_ends_101 : decode cX6_ends 101 = .ok (.getfield 31, 3) := by decide +kernel
theorem dX6_ends_104 : decode cX6_ends 104 = .ok (.iload_n 2, 1) := by decide +kernel
theorem dX6_ends_105 : decode cX6_ends 105 = .ok (.bipush (-9), 2) := by decide +kernel
theorem dX6_ends_107 : decode cX6_ends 107 = .ok (.iastore, 1) := by decide +kernel
theorem dX6_ends_108 : decode cX6_ends 108 = .ok (.aload_n 0, 1) := by decide +kernel
theorem dX6_ends_109 : decode cX6_ends 109 = .ok (.dup, 1) := by decide +kernel
theorem dX6_ends_110 : decode cX6_ends 110 = .ok (.getfield 121, 3) := by decide +kernel
theorem dX6_ends_113 : decode cX6_ends 113 = .ok (.iconst 1, 1) := by decide +kernel
theorem dX6_ends_114 : decode cX6_ends 114 = .ok (.iadd, 1) := by decide +kernel
theorem dX6_ends_115 : decode cX6_ends 115 = .ok (.putfield 121, 3) := by decide +kernel
theorem dX6_ends_118 : decode cX6_ends 118 = .ok (.iinc 2 1, 3) := by decide +kernel
theorem dX6_ends_121 : decode cX6_ends 121 = .ok (.goto (-49), 3) := by decide +kernel
theorem dX6_ends_124 : decode cX6_ends 124 = .ok (.return_, 1) := by decide +kernel
theorem dX6_isUp_0 : decode cX6_isUp 0 = .ok (.iconst 0, 1) := by decide +kernel
theorem dX6_isUp_1 : decode cX6_isUp 1 = .ok (.istore_n 1, 1) := by decide +kernel
theorem dX6_isUp_2 : decode cX6_isUp 2 = .ok (.iconst 0, 1) := by decide +kernel
theorem dX6_isUp_3 : decode cX6_isUp 3 = .ok (.istore_n 2, 1) := by decide +kernel
theorem dX6_isUp_4 : decode cX6_isUp 4 = .ok (.iload_n 2, 1) := by decide +kernel
theorem dX6_isUp_5 : decode cX6_isUp 5 = .ok (.aload_n 0, 1) := by decide +kernel
theorem dX6_isUp_6 : decode cX6_isUp 6 = .ok (.getfield 13, 3) := by decide +kernel
theorem dX6_isUp_9 : decode cX6_isUp 9 = .ok (.iconst 1, 1) := by decide +kernel
theorem dX6_isUp_10 : decode cX6_isUp 10 = .ok (.iaload, 1) := by decide +kernel
theorem dX6_isUp_11 : decode cX6_isUp 11 = .ok (.if_icmp .ge 28, 3) := by decide +kernel
theorem dX6_isUp_14 : decode cX6_isUp 14 = .ok (.iload_n 1, 1) := by decide +kernel
theorem dX6_isUp_15 : decode cX6_isUp 15 = .ok (.ifCond .ne 12, 3) := by decide +kernel
theorem dX6_isUp_18 : decode cX6_isUp 18 = .ok (.aload_n 0, 1) := by decide +kernel
theorem dX6_isUp_19 : decode cX6_isUp 19 = .ok (.getfield 28, 3) := by decide +kernel
theorem dX6_isUp_22 : decode cX6_isUp 22 = .ok (.iload_n 2, 1) := by decide +kernel
theorem dX6_isUp_23 : decode cX6_isUp 23 = .ok (.iaload, 1) := by decide +kernel
theorem dX6_isUp_24 : decode cX6_isUp 24 = .ok (.ifCond .lt 7, 3) := by decide +kernel
theorem dX6_isUp_27 : decode cX6_isUp 27 = .ok (.iconst 1, 1) := by decide +kernel
theorem dX6_isUp_28 : decode cX6_isUp 28 = .ok (.goto 4, 3) := by decide +kernel
theorem dX6_isUp_31 : decode cX6_isUp 31 = .ok (.iconst 0, 1) := by decide +kernel
theorem dX6_isUp_32 : decode cX6_isUp 32 = .ok (.istore_n 1, 1) := by decide +kernel
theorem dX6_isUp_33 : decode cX6_isUp 33 = .ok (.iinc 2 1, 3) := by decide +kernel
theorem dX6_isUp_36 : decode cX6_isUp 36 = .ok (.goto (-32), 3) := by decide +kernel
theorem dX6_isUp_39 : decode cX6_isUp 39 = .ok (.iload_n 1, 1) := by decide +kernel
theorem dX6_isUp_40 : decode cX6_isUp 40 = .ok (.ireturn, 1) := by decide +kernel
theorem dX6_isDown_0 : decode cX6_isDown 0 = .ok (.iconst 0, 1) := by decide +kernel
theorem dX6_isDown_1 : decode cX6_isDown 1 = .ok (.istore_n 1, 1) := by decide +kernel
theorem dX6_isDown_2 : decode cX6_isDown 2 = .ok (.iconst 0, 1) := by decide +kernel
theorem dX6_isDown_3 : decode cX6_isDown 3 = .ok (.istore_n 2, 1) := by decide +kernel
theorem dX6_isDown_4 : decode cX6_isDown 4 = .ok (.iload_n 2, 1) := by decide +kernel
theorem dX6_isDown_5 : decode cX6_isDown 5 = .ok (.bipush 6, 2) := by decide +kernel
theorem dX6_isDown_7 : decode cX6_isDown 7 = .ok (.if_icmp .ge 28, 3) := by decide +kernel
theorem dX6_isDown_10 : decode cX6_isDown 10 = .ok (.iload_n 1, 1) := by decide +kernel
theorem dX6_isDown_11 : decode cX6_isDown 11 = .ok (.ifCond .ne 12, 3) := by decide +kernel
theorem dX6_isDown_14 : decode cX6_isDown 14 = .ok (.aload_n 0, 1) := by decide +kernel
theorem dX6_isDown_15 : decode cX6_isDown 15 = .ok (.getfield 31, 3) := by decide +kernel
theorem dX6_isDown_18 : decode cX6_isDown 18 = .ok (.iload_n 2, 1) := by decide +kernel
theorem dX6_isDown_19 : decode cX6_isDown 19 = .ok (.iaload, 1) := by decide +kernel
theorem dX6_isDown_20 : decode cX6_isDown 20 = .ok (.ifCond .lt 7, 3) := by decide +kernel
theorem dX6_isDown_23 : decode cX6_isDown 23 = .ok (.iconst 1, 1) := by decide +kernel
theorem dX6_isDown_24 : decode cX6_isDown 24 = .ok (.goto 4, 3) := by decide +kernel
theorem dX6_isDown_27 : decode cX6_isDown 27 = .ok (.iconst 0, 1) := by decide +kernel
theorem dX6_isDown_28 : decode cX6_isDown 28 = .ok (.istore_n 1, 1) := by decide +kernel
theorem dX6_isDown_29 : decode cX6_isDown 29 = .ok (.iinc 2 1, 3) := by decide +kernel
theorem dX6_isDown_32 : decode cX6_isDown 32 = .ok (.goto (-28), 3) := by decide +kernel
theorem dX6_isDown_35 : decode cX6_isDown 35 = .ok (.iload_n 1, 1) := by decide +kernel
theorem dX6_isDown_36 : decode cX6_isDown 36 = .ok (.ireturn, 1) := by decide +kernel
theorem dX6_singles_0 : decode cX6_singles 0 = .ok (.iconst 0, 1) := by decide +kernel
theorem dX6_singles_1 : decode cX6_singles 1 = .ok (.istore_n 1, 1) := by decide +kernel
theorem dX6_singles_2 : decode cX6_singles 2 = .ok (.iconst 0, 1) := by decide +kernel
theorem dX6_singles_3 : decode cX6_singles 3 = .ok (.istore_n 2, 1) := by decide +kernel
theorem dX6_singles_4 : decode cX6_singles 4 = .ok (.iload_n 2, 1) := by decide +kernel
theorem dX6_singles_5 : decode cX6_singles 5 = .ok (.aload_n 0, 1) := by decide +kernel
theorem dX6_singles_6 : decode cX6_singles 6 = .ok (.getfield 13, 3) := by decide +kernel
theorem dX6_singles_9 : decode cX6_singles 9 = .ok (.iconst 0, 1) := by decide +kernel
theorem dX6_singles_10 : decode cX6_singles 10 = .ok (.iaload, 1) := by decide +kernel
theorem dX6_singles_11 : decode cX6_singles 11 = .ok (.if_icmp .ge 27, 3) := by decide +kernel
theorem dX6_singles_14 : decode cX6_singles 14 = .ok (.iload_n 1, 1) := by decide +kernel
theorem dX6_singles_15 : decode cX6_singles 15 = .ok (.iconst 1, 1) := by decide +kernel
theorem dX6_singles_16 : decode cX6_singles 16 = .ok (.aload_n 0, 1) := by decide +kernel
theorem dX6_singles_17 : decode cX6_singles 17 = .ok (.getfield 13, 3) := by decide +kernel
theorem dX6_singles_20 : decode cX6_singles 20 = .ok (.bipush 13, 2) := by decide +kernel
theorem dX6_singles_22 : decode cX6_singles 22 = .ok (.iconst 2, 1) := by decide +kernel
theorem dX6_singles_23 : decode cX6_singles 23 = .ok (.iload_n 2, 1) := by decide +kernel
theorem dX6_singles_24 : decode cX6_singles 24 = .ok (.imul, 1) := by decide +kernel
theorem dX6_singles_25 : decode cX6_singles 25 = .ok (.iadd, 1) := by decide +kernel
theorem dX6_singles_26 : decode cX6_singles 26 = .ok (.iconst 1, 1) := by decide +kernel
theorem dX6_singles_27 : decode cX6_singles 27 = .ok (.iadd, 1) := by decide +kernel
theorem dX6_singles_28 : decode cX6_singles 28 = .ok (.iaload, 1) := by decide +kernel
theorem dX6_singles_29 : decode cX6_singles 29 = .ok (.isub, 1) := by decide +kernel
theorem dX6_singles_30 : decode cX6_singles 30 = .ok (.iadd, 1) := by decide +kernel
theorem dX6_singles_31 : decode cX6_singles 31 = .ok (.istore_n 1, 1) := by decide +kernel
theorem dX6_singles_32 : decode cX6_singles 32 = .ok (.iinc 2 1, 3) := by decide +kernel
theorem dX6_singles_35 : decode cX6_singles 35 = .ok (.goto (-31), 3) := by decide +kernel
theorem dX6_singles_38 : decode cX6_singles 38 = .ok (.iload_n 1, 1) := by decide +kernel
theorem dX6_singles_39 : decode cX6_singles 39 = .ok (.ireturn, 1) := by decide +kernel
theorem dX6_letsDown_0 : decode cX6_letsDown 0 = .ok (.iload_n 1, 1) := by decide +kernel
theorem dX6_letsDown_1 : decode cX6_letsDown 1 = .ok (.aload_n 0, 1) := by decide +kernel
theorem dX6_letsDown_2 : decode cX6_letsDown 2 = .ok (.getfield 136, 3) := by decide +kernel
theorem dX6_letsDown_5 : decode cX6_letsDown 5 = .ok (.if_icmp .lt 37, 3) := by decide +kernel
theorem dX6_letsDown_8 : decode cX6_letsDown 8 = .ok (.iload_n 1, 1) := by decide +kernel
theorem dX6_letsDown_9 : decode cX6_letsDown 9 = .ok (.aload_n 0, 1) := by decide +kernel
theorem dX6_letsDown_10 : decode cX6_letsDown 10 = .ok (.getfield 133, 3) := by decide +kernel
theorem dX6_letsDown_13 : decode cX6_letsDown 13 = .ok (.isub, 1) := by decide +kernel
theorem dX6_letsDown_14 : decode cX6_letsDown 14 = .ok (.aload_n 0, 1) := by decide +kernel
theorem dX6_letsDown_15 : decode cX6_letsDown 15 = .ok (.getfield 13, 3) := by decide +kernel
theorem dX6_letsDown_18 : decode cX6_letsDown 18 = .ok (.bipush 9, 2) := by decide +kernel
theorem dX6_letsDown_20 : decode cX6_letsDown 20 = .ok (.iaload, 1) := by decide +kernel
theorem dX6_letsDown_21 : decode cX6_letsDown 21 = .ok (.if_icmp .lt 21, 3) := by decide +kernel
theorem dX6_letsDown_24 : decode cX6_letsDown 24 = .ok (.aload_n 0, 1) := by decide +kernel
theorem dX6_letsDown_25 : decode cX6_letsDown 25 = .ok (.invokevirtual 139, 3) := by decide +kernel
theorem dX6_letsDown_28 : decode cX6_letsDown 28 = .ok (.ifCond .eq 10, 3) := by decide +kernel
theorem dX6_letsDown_31 : decode cX6_letsDown 31 = .ok (.aload_n 0, 1) := by decide +kernel
theorem dX6_letsDown_32 : decode cX6_letsDown 32 = .ok (.invokevirtual 142, 3) := by decide +kernel
theorem dX6_letsDown_35 : decode cX6_letsDown 35 = .ok (.ifCond .ne 7, 3) := by decide +kernel
theorem dX6_letsDown_38 : decode cX6_letsDown 38 = .ok (.iconst 1, 1) := by decide +kernel
theorem dX6_letsDown_39 : decode cX6_letsDown 39 = .ok (.goto 4, 3) := by decide +kernel
theorem dX6_letsDown_42 : decode cX6_letsDown 42 = .ok (.iconst 0, 1) := by decide +kernel
theorem dX6_letsDown_43 : decode cX6_letsDown 43 = .ok (.ireturn, 1) := by decide +kernel
theorem dX6_letsUp_0 : decode cX6_letsUp 0 = .ok (.iload_n 1, 1) := by decide +kernel
theorem dX6_letsUp_1 : decode cX6_letsUp 1 = .ok (.aload_n 0, 1) := by decide +kernel
theorem dX6_letsUp_2 : decode cX6_letsUp 2 = .ok (.getfield 136, 3) := by decide +kernel
theorem dX6_letsUp_5 : decode cX6_letsUp 5 = .ok (.if_icmp .lt 33, 3) := by decide +kernel
theorem dX6_letsUp_8 : decode cX6_letsUp 8 = .ok (.iload_n 1, 1) := by decide +kernel
theorem dX6_letsUp_9 : decode cX6_letsUp 9 = .ok (.aload_n 0, 1) := by decide +kernel
theorem dX6_letsUp_10 : decode cX6_letsUp 10 = .ok (.getfield 130, 3) := by decide +kernel
theorem dX6_letsUp_13 : decode cX6_letsUp 13 = .ok (.isub, 1) := by decide +kernel
theorem dX6_letsUp_14 : decode cX6_letsUp 14 = .ok (.aload_n 0, 1) := by decide +kernel
theorem dX6_letsUp_15 : decode cX6_letsUp 15 = .ok (.getfield 13, 3) := by decide +kernel
theorem dX6_letsUp_18 : decode cX6_letsUp 18 = .ok (.bipush 9, 2) := by decide +kernel
theorem dX6_letsUp_20 : decode cX6_letsUp 20 = .ok (.iaload, 1) := by decide +kernel
theorem dX6_letsUp_21 : decode cX6_letsUp 21 = .ok (.if_icmp .lt 17, 3) := by decide +kernel
theorem dX6_letsUp_24 : decode cX6_letsUp 24 = .ok (.aload_n 0, 1) := by decide +kernel
theorem dX6_letsUp_25 : decode cX6_letsUp 25 = .ok (.invokevirtual 139, 3) := by decide +kernel
theorem dX6_letsUp_28 : decode cX6_letsUp 28 = .ok (.ifCond .le 12, 3) := by decide +kernel
theorem dX6_letsUp_31 : decode cX6_letsUp 31 = .ok (.aload_n 0, 1) := by decide +kernel
theorem dX6_letsUp_32 : decode cX6_letsUp 32 = .ok (.invokevirtual 145, 3) := by decide +kernel
theorem dX6_letsUp_35 : decode cX6_letsUp 35 = .ok (.ifCond .eq 5, 3) := by decide +kernel
theorem dX6_letsUp_38 : decode cX6_letsUp 38 = .ok (.iconst 0, 1) := by decide +kernel
theorem dX6_letsUp_39 : decode cX6_letsUp 39 = .ok (.ireturn, 1) := by decide +kernel
theorem dX6_letsUp_40 : decode cX6_letsUp 40 = .ok (.aload_n 0, 1) := by decide +kernel
theorem dX6_letsUp_41 : decode cX6_letsUp 41 = .ok (.iload_n 2, 1) := by decide +kernel
theorem dX6_letsUp_42 : decode cX6_letsUp 42 = .ok (.invokevirtual 112, 3) := by decide +kernel
theorem dX6_letsUp_45 : decode cX6_letsUp 45 = .ok (.iconst 2, 1) := by decide +kernel
theorem dX6_letsUp_46 : decode cX6_letsUp 46 = .ok (.if_icmp .ne 17, 3) := by decide +kernel
theorem dX6_letsUp_49 : decode cX6_letsUp 49 = .ok (.aload_n 0, 1) := by decide +kernel
theorem dX6_letsUp_50 : decode cX6_letsUp 50 = .ok (.invokevirtual 142, 3) := by decide +kernel
theorem dX6_letsUp_53 : decode cX6_letsUp 53 = .ok (.ifCond .ne 14, 3) := by decide +kernel
theorem dX6_letsUp_56 : decode cX6_letsUp 56 = .ok (.aload_n 0, 1) := by decide +kernel
theorem dX6_letsUp_57 : decode cX6_letsUp 57 = .ok (.invokevirtual 145, 3) := by decide +kernel
theorem dX6_letsUp_60 : decode cX6_letsUp 60 = .ok (.ifCond .ne 7, 3) := by decide +kernel
theorem dX6_letsUp_63 : decode cX6_letsUp 63 = .ok (.iconst 1, 1) := by decide +kernel
theorem dX6_letsUp_64 : decode cX6_letsUp 64 = .ok (.goto 4, 3) := by decide +kernel
theorem dX6_letsUp_67 : decode cX6_letsUp 67 = .ok (.iconst 0, 1) := by decide +kernel
theorem dX6_letsUp_68 : decode cX6_letsUp 68 = .ok (.ireturn, 1) := by decide +kernel
theorem dX6_goesDown_0 : decode cX6_goesDown 0 = .ok (.iconst 0, 1) := by decide +kernel
theorem dX6_goesDown_1 : decode cX6_goesDown 1 = .ok (.istore_n 2, 1) := by decide +kernel
theorem dX6_goesDown_2 : decode cX6_goesDown 2 = .ok (.aload_n 0, 1) := by decide +kernel
theorem dX6_goesDown_3 : decode cX6_goesDown 3 = .ok (.getfield 31, 3) := by decide +kernel
theorem dX6_goesDown_6 : decode cX6_goesDown 6 = .ok (.iload_n 2, 1) := by decide +kernel
theorem dX6_goesDown_7 : decode cX6_goesDown 7 = .ok (.iaload, 1) := by decide +kernel
theorem dX6_goesDown_8 : decode cX6_goesDown 8 = .ok (.ifCond .lt 9, 3) := by decide +kernel
theorem dX6_goesDown_11 : decode cX6_goesDown 11 = .ok (.iinc 2 1, 3) := by decide +kernel
theorem dX6_goesDown_14 : decode cX6_goesDown 14 = .ok (.goto (-12), 3) := by decide +kernel
theorem dX6_goesDown_17 : decode cX6_goesDown 17 = .ok (.aload_n 0, 1) := by decide +kernel
theorem dX6_goesDown_18 : decode cX6_goesDown 18 = .ok (.dup, 1) := by decide +kernel
theorem dX6_goesDown_19 : decode cX6_goesDown 19 = .ok (.getfield 124, 3) := by decide +kernel
theorem dX6_goesDown_22 : decode cX6_goesDown 22 = .ok (.iconst 1, 1) := by decide +kernel
theorem dX6_goesDown_23 : decode cX6_goesDown 23 = .ok (.isub, 1) := by decide +kernel
theorem dX6_goesDown_24 : decode cX6_goesDown 24 = .ok (.putfield 124, 3) := by decide +kernel
theorem dX6_goesDown_27 : decode cX6_goesDown 27 = .ok (.aload_n 0, 1) := by decide +kernel
theorem dX6_goesDown_28 : decode cX6_goesDown 28 = .ok (.getfield 31, 3) := by decide +kernel
theorem dX6_goesDown_31 : decode cX6_goesDown 31 = .ok (.iload_n 2, 1) := by decide +kernel
theorem dX6_goesDown_32 : decode cX6_goesDown 32 = .ok (.iload_n 1, 1) := by decide +kernel
theorem dX6_goesDown_33 : decode cX6_goesDown 33 = .ok (.aload_n 0, 1) := by decide +kernel
theorem dX6_goesDown_34 : decode cX6_goesDown 34 = .ok (.invokevirtual 115, 3) := by decide +kernel
theorem dX6_goesDown_37 : decode cX6_goesDown 37 = .ok (.iadd, 1) := by decide +kernel
theorem dX6_goesDown_38 : decode cX6_goesDown 38 = .ok (.iastore, 1) := by decide +kernel
theorem dX6_goesDown_39 : decode cX6_goesDown 39 = .ok (.aload_n 0, 1) := by decide +kernel
theorem dX6_goesDown_40 : decode cX6_goesDown 40 = .ok (.iload_n 1, 1) := by decide +kernel
theorem dX6_goesDown_41 : decode cX6_goesDown 41 = .ok (.putfield 133, 3) := by decide +kernel
theorem dX6_goesDown_44 : decode cX6_goesDown 44 = .ok (.aload_n 0, 1) := by decide +kernel
theorem dX6_goesDown_45 : decode cX6_goesDown 45 = .ok (.dup, 1) := by decide +kernel
theorem dX6_goesDown_46 : decode cX6_goesDown 46 = .ok (.getfield 127, 3) := by decide +kernel
theorem dX6_goesDown_49 : decode cX6_goesDown 49 = .ok (.iconst 1, 1) := by decide +kernel
theorem dX6_goesDown_50 : decode cX6_goesDown 50 = .ok (.iadd, 1) := by decide +kernel
theorem dX6_goesDown_51 : decode cX6_goesDown 51 = .ok (.putfield 127, 3) := by decide +kernel
theorem dX6_goesDown_54 : decode cX6_goesDown 54 = .ok (.return_, 1) := by decide +kernel
theorem dX6_goesUp_0 : decode cX6_goesUp 0 = .ok (.aload_n 0, 1) := by decide +kernel
theorem dX6_goesUp_1 : decode cX6_goesUp 1 = .ok (.dup, 1) := by decide +kernel
theorem dX6_goesUp_2 : decode cX6_goesUp 2 = .ok (.getfield 121, 3) := by decide +kernel
theorem dX6_goesUp_5 : decode cX6_goesUp 5 = .ok (.aload_n 0, 1) := by decide +kernel
theorem dX6_goesUp_6 : decode cX6_goesUp 6 = .ok (.iload_n 2, 1) := by decide +kernel
theorem dX6_goesUp_7 : decode cX6_goesUp 7 = .ok (.invokevirtual 112, 3) := by decide +kernel
theorem dX6_goesUp_10 : decode cX6_goesUp 10 = .ok (.ifCond .le 7, 3) := by decide +kernel
theorem dX6_goesUp_13 : decode cX6_goesUp 13 = .ok (.iconst 1, 1) := by decide +kernel
theorem dX6_goesUp_14 : decode cX6_goesUp 14 = .ok (.goto 4, 3) := by decide +kernel
theorem dX6_goesUp_17 : decode cX6_goesUp 17 = .ok (.iconst 0, 1) := by decide +kernel
theorem dX6_goesUp_18 : decode cX6_goesUp 18 = .ok (.isub, 1) := by decide +kernel
theorem dX6_goesUp_19 : decode cX6_goesUp 19 = .ok (.putfield 121, 3) := by decide +kernel
theorem dX6_goesUp_22 : decode cX6_goesUp 22 = .ok (.aload_n 0, 1) := by decide +kernel
theorem dX6_goesUp_23 : decode cX6_goesUp 23 = .ok (.getfield 28, 3) := by decide +kernel
theorem dX6_goesUp_26 : decode cX6_goesUp 26 = .ok (.iload_n 2, 1) := by decide +kernel
theorem dX6_goesUp_27 : decode cX6_goesUp 27 = .ok (.iload_n 1, 1) := by decide +kernel
theorem dX6_goesUp_28 : decode cX6_goesUp 28 = .ok (.aload_n 0, 1) := by decide +kernel
theorem dX6_goesUp_29 : decode cX6_goesUp 29 = .ok (.iload_n 2, 1) := by decide +kernel
theorem dX6_goesUp_30 : decode cX6_goesUp 30 = .ok (.invokevirtual 118, 3) := by decide +kernel
theorem dX6_goesUp_33 : decode cX6_goesUp 33 = .ok (.iadd, 1) := by decide +kernel
theorem dX6_goesUp_34 : decode cX6_goesUp 34 = .ok (.iastore, 1) := by decide +kernel
theorem dX6_goesUp_35 : decode cX6_goesUp 35 = .ok (.aload_n 0, 1) := by decide +kernel
theorem dX6_goesUp_36 : decode cX6_goesUp 36 = .ok (.aload_n 0, 1) := by decide +kernel
theorem dX6_goesUp_37 : decode cX6_goesUp 37 = .ok (.iload_n 2, 1) := by decide +kernel
theorem dX6_goesUp_38 : decode cX6_goesUp 38 = .ok (.invokevirtual 112, 3) := by decide +kernel
theorem dX6_goesUp_41 : decode cX6_goesUp 41 = .ok (.iconst 2, 1) := by decide +kernel
theorem dX6_goesUp_42 : decode cX6_goesUp 42 = .ok (.if_icmp .ne 12, 3) := by decide +kernel
theorem dX6_goesUp_45 : decode cX6_goesUp 45 = .ok (.aload_n 0, 1) := by decide +kernel
theorem dX6_goesUp_46 : decode cX6_goesUp 46 = .ok (.getfield 28, 3) := by decide +kernel
theorem dX6_goesUp_49 : decode cX6_goesUp 49 = .ok (.iload_n 2, 1) := by decide +kernel
theorem dX6_goesUp_50 : decode cX6_goesUp 50 = .ok (.iaload, 1) := by decide +kernel
theorem dX6_goesUp_51 : decode cX6_goesUp 51 = .ok (.goto 7, 3) := by decide +kernel
theorem dX6_goesUp_54 : decode cX6_goesUp 54 = .ok (.aload_n 0, 1) := by decide +kernel
theorem dX6_goesUp_55 : decode cX6_goesUp 55 = .ok (.getfield 136, 3) := by decide +kernel
theorem dX6_goesUp_58 : decode cX6_goesUp 58 = .ok (.putfield 136, 3) := by decide +kernel
theorem dX6_goesUp_61 : decode cX6_goesUp 61 = .ok (.aload_n 0, 1) := by decide +kernel
theorem dX6_goesUp_62 : decode cX6_goesUp 62 = .ok (.getfield 34, 3) := by decide +kernel
theorem dX6_goesUp_65 : decode cX6_goesUp 65 = .ok (.iload_n 2, 1) := by decide +kernel
theorem dX6_goesUp_66 : decode cX6_goesUp 66 = .ok (.iload_n 1, 1) := by decide +kernel
theorem dX6_goesUp_67 : decode cX6_goesUp 67 = .ok (.iastore, 1) := by decide +kernel
theorem dX6_goesUp_68 : decode cX6_goesUp 68 = .ok (.aload_n 0, 1) := by decide +kernel
theorem dX6_goesUp_69 : decode cX6_goesUp 69 = .ok (.iload_n 1, 1) := by decide +kernel
theorem dX6_goesUp_70 : decode cX6_goesUp 70 = .ok (.putfield 130, 3) := by decide +kernel
theorem dX6_goesUp_73 : decode cX6_goesUp 73 = .ok (.return_, 1) := by decide +kernel
theorem dX6_hasEngine_0 : decode cX6_hasEngine 0 = .ok (.aload_n 0, 1) := by decide +kernel
theorem dX6_hasEngine_1 : decode cX6_hasEngine 1 = .ok (.iload_n 1, 1) := by decide +kernel
theorem dX6_hasEngine_2 : decode cX6_hasEngine 2 = .ok (.invokevirtual 112, 3) := by decide +kernel
theorem dX6_hasEngine_5 : decode cX6_hasEngine 5 = .ok (.ifCond .eq 10, 3) := by decide +kernel
theorem dX6_hasEngine_8 : decode cX6_hasEngine 8 = .ok (.aload_n 0, 1) := by decide +kernel
theorem dX6_hasEngine_9 : decode cX6_hasEngine 9 = .ok (.getfield 121, 3) := by decide +kernel
theorem dX6_hasEngine_12 : decode cX6_hasEngine 12 = .ok (.ifCond .le 7, 3) := by decide +kernel
theorem dX6_hasEngine_15 : decode cX6_hasEngine 15 = .ok (.iconst 1, 1) := by decide +kernel
theorem dX6_hasEngine_16 : decode cX6_hasEngine 16 = .ok (.goto 4, 3) := by decide +kernel
theorem dX6_hasEngine_19 : decode cX6_hasEngine 19 = .ok (.iconst 0, 1) := by decide +kernel
theorem dX6_hasEngine_20 : decode cX6_hasEngine 20 = .ok (.ireturn, 1) := by decide +kernel
theorem dX6_waits_0 : decode cX6_waits 0 = .ok (.aload_n 0, 1) := by decide +kernel
theorem dX6_waits_1 : decode cX6_waits 1 = .ok (.getfield 34, 3) := by decide +kernel
theorem dX6_waits_4 : decode cX6_waits 4 = .ok (.iload_n 2, 1) := by decide +kernel
theorem dX6_waits_5 : decode cX6_waits 5 = .ok (.iaload, 1) := by decide +kernel
theorem dX6_waits_6 : decode cX6_waits 6 = .ok (.ifCond .ge 25, 3) := by decide +kernel
theorem dX6_waits_9 : decode cX6_waits 9 = .ok (.aload_n 0, 1) := by decide +kernel
theorem dX6_waits_10 : decode cX6_waits 10 = .ok (.iload_n 2, 1) := by decide +kernel
theorem dX6_waits_11 : decode cX6_waits 11 = .ok (.invokevirtual 148, 3) := by decide +kernel
theorem dX6_waits_14 : decode cX6_waits 14 = .ok (.iload_n 1, 1) := by decide +kernel
theorem dX6_waits_15 : decode cX6_waits 15 = .ok (.if_icmp .gt 16, 3) := by decide +kernel
theorem dX6_waits_18 : decode cX6_waits 18 = .ok (.aload_n 0, 1) := by decide +kernel
theorem dX6_waits_19 : decode cX6_waits 19 = .ok (.iload_n 2, 1) := by decide +kernel
theorem dX6_waits_20 : decode cX6_waits 20 = .ok (.invokevirtual 112, 3) := by decide +kernel
theorem dX6_waits_23 : decode cX6_waits 23 = .ok (.iconst 3, 1) := by decide +kernel
theorem dX6_waits_24 : decode cX6_waits 24 = .ok (.if_icmp .eq 7, 3) := by decide +kernel
theorem dX6_waits_27 : decode cX6_waits 27 = .ok (.iconst 1, 1) := by decide +kernel
theorem dX6_waits_28 : decode cX6_waits 28 = .ok (.goto 4, 3) := by decide +kernel
theorem dX6_waits_31 : decode cX6_waits 31 = .ok (.iconst 0, 1) := by decide +kernel
theorem dX6_waits_32 : decode cX6_waits 32 = .ok (.ireturn, 1) := by decide +kernel
theorem dX6_placeIn_0 : decode cX6_placeIn 0 = .ok (.iconst 0, 1) := by decide +kernel
theorem dX6_placeIn_1 : decode cX6_placeIn 1 = .ok (.istore_n 2, 1) := by decide +kernel
theorem dX6_placeIn_2 : decode cX6_placeIn 2 = .ok (.iload_n 2, 1) := by decide +kernel
theorem dX6_placeIn_3 : decode cX6_placeIn 3 = .ok (.aload_n 0, 1) := by decide +kernel
theorem dX6_placeIn_4 : decode cX6_placeIn 4 = .ok (.getfield 13, 3) := by decide +kernel
theorem dX6_placeIn_7 : decode cX6_placeIn 7 = .ok (.iconst 3, 1) := by decide +kernel
theorem dX6_placeIn_8 : decode cX6_placeIn 8 = .ok (.iaload, 1) := by decide +kernel
theorem dX6_placeIn_9 : decode cX6_placeIn 9 = .ok (.if_icmp .ge 24, 3) := by decide +kernel
theorem dX6_placeIn_12 : decode cX6_placeIn 12 = .ok (.aload_n 0, 1) := by decide +kernel
theorem dX6_placeIn_13 : decode cX6_placeIn 13 = .ok (.getfield 13, 3) := by decide +kernel
theorem dX6_placeIn_16 : decode cX6_placeIn 16 = .ok (.bipush 39, 2) := by decide +kernel
theorem dX6_placeIn_18 : decode cX6_placeIn 18 = .ok (.iload_n 2, 1) := by decide +kernel
theorem dX6_placeIn_19 : decode cX6_placeIn 19 = .ok (.iadd, 1) := by decide +kernel
theorem dX6_placeIn_20 : decode cX6_placeIn 20 = .ok (.iaload, 1) := by decide +kernel
theorem dX6_placeIn_21 : decode cX6_placeIn 21 = .ok (.iload_n 1, 1) := by decide +kernel
theorem dX6_placeIn_22 : decode cX6_placeIn 22 = .ok (.if_icmp .ne 5, 3) := by decide +kernel
theorem dX6_placeIn_25 : decode cX6_placeIn 25 = .ok (.iload_n 2, 1) := by decide +kernel
theorem dX6_placeIn_26 : decode cX6_placeIn 26 = .ok (.ireturn, 1) := by decide +kernel
theorem dX6_placeIn_27 : decode cX6_placeIn 27 = .ok (.iinc 2 1, 3) := by decide +kernel
theorem dX6_placeIn_30 : decode cX6_placeIn 30 = .ok (.goto (-28), 3) := by decide +kernel
theorem dX6_placeIn_33 : decode cX6_placeIn 33 = .ok (.bipush 8, 2) := by decide +kernel
theorem dX6_placeIn_35 : decode cX6_placeIn 35 = .ok (.ireturn, 1) := by decide +kernel
theorem dX6_isAhead_0 : decode cX6_isAhead 0 = .ok (.aload_n 0, 1) := by decide +kernel
theorem dX6_isAhead_1 : decode cX6_isAhead 1 = .ok (.getfield 13, 3) := by decide +kernel
theorem dX6_isAhead_4 : decode cX6_isAhead 4 = .ok (.bipush 11, 2) := by decide +kernel
theorem dX6_isAhead_6 : decode cX6_isAhead 6 = .ok (.iaload, 1) := by decide +kernel
theorem dX6_isAhead_7 : decode cX6_isAhead 7 = .ok (.iconst 1, 1) := by decide +kernel
theorem dX6_isAhead_8 : decode cX6_isAhead 8 = .ok (.if_icmp .ne 12, 3) := by decide +kernel
theorem dX6_isAhead_11 : decode cX6_isAhead 11 = .ok (.aload_n 0, 1) := by decide +kernel
theorem dX6_isAhead_12 : decode cX6_isAhead 12 = .ok (.iload_n 1, 1) := by decide +kernel
theorem dX6_isAhead_13 : decode cX6_isAhead 13 = .ok (.invokevirtual 106, 3) := by decide +kernel
theorem dX6_isAhead_16 : decode cX6_isAhead 16 = .ok (.ineg, 1) := by decide +kernel
theorem dX6_isAhead_17 : decode cX6_isAhead 17 = .ok (.goto 42, 3) := by decide +kernel
theorem dX6_isAhead_20 : decode cX6_isAhead 20 = .ok (.aload_n 0, 1) := by decide +kernel
theorem dX6_isAhead_21 : decode cX6_isAhead 21 = .ok (.getfield 13, 3) := by decide +kernel
theorem dX6_isAhead_24 : decode cX6_isAhead 24 = .ok (.bipush 11, 2) := by decide +kernel
theorem dX6_isAhead_26 : decode cX6_isAhead 26 = .ok (.iaload, 1) := by decide +kernel
theorem dX6_isAhead_27 : decode cX6_isAhead 27 = .ok (.iconst 2, 1) := by decide +kernel
theorem dX6_isAhead_28 : decode cX6_isAhead 28 = .ok (.if_icmp .ne 11, 3) := by decide +kernel
theorem dX6_isAhead_31 : decode cX6_isAhead 31 = .ok (.aload_n 0, 1) := by decide +kernel
theorem dX6_isAhead_32 : decode cX6_isAhead 32 = .ok (.iload_n 1, 1) := by decide +kernel
theorem dX6_isAhead_33 : decode cX6_isAhead 33 = .ok (.invokevirtual 106, 3) := by decide +kernel
theorem dX6_isAhead_36 : decode cX6_isAhead 36 = .ok (.goto 23, 3) := by decide +kernel
theorem dX6_isAhead_39 : decode cX6_isAhead 39 = .ok (.aload_n 0, 1) := by decide +kernel
theorem dX6_isAhead_40 : decode cX6_isAhead 40 = .ok (.getfield 13, 3) := by decide +kernel
theorem dX6_isAhead_43 : decode cX6_isAhead 43 = .ok (.bipush 11, 2) := by decide +kernel
theorem dX6_isAhead_45 : decode cX6_isAhead 45 = .ok (.iaload, 1) := by decide +kernel
theorem dX6_isAhead_46 : decode cX6_isAhead 46 = .ok (.iconst 3, 1) := by decide +kernel
theorem dX6_isAhead_47 : decode cX6_isAhead 47 = .ok (.if_icmp .ne 11, 3) := by decide +kernel
theorem dX6_isAhead_50 : decode cX6_isAhead 50 = .ok (.aload_n 0, 1) := by decide +kernel
theorem dX6_isAhead_51 : decode cX6_isAhead 51 = .ok (.iload_n 1, 1) := by decide +kernel
theorem dX6_isAhead_52 : decode cX6_isAhead 52 = .ok (.invokevirtual 151, 3) := by decide +kernel
theorem dX6_isAhead_55 : decode cX6_isAhead 55 = .ok (.goto 4, 3) := by decide +kernel
theorem dX6_isAhead_58 : decode cX6_isAhead 58 = .ok (.iconst 0, 1) := by decide +kernel
theorem dX6_isAhead_59 : decode cX6_isAhead 59 = .ok (.istore_n 3, 1) := by decide +kernel
theorem dX6_isAhead_60 : decode cX6_isAhead 60 = .ok (.aload_n 0, 1) := by decide +kernel
theorem dX6_isAhead_61 : decode cX6_isAhead 61 = .ok (.getfield 13, 3) := by decide +kernel
theorem dX6_isAhead_64 : decode cX6_isAhead 64 = .ok (.bipush 11, 2) := by decide +kernel
theorem dX6_isAhead_66 : decode cX6_isAhead 66 = .ok (.iaload, 1) := by decide +kernel
theorem dX6_isAhead_67 : decode cX6_isAhead 67 = .ok (.iconst 1, 1) := by decide +kernel
theorem dX6_isAhead_68 : decode cX6_isAhead 68 = .ok (.if_icmp .ne 12, 3) := by decide +kernel
theorem dX6_isAhead_71 : decode cX6_isAhead 71 = .ok (.aload_n 0, 1) := by decide +kernel
theorem dX6_isAhead_72 : decode cX6_isAhead 72 = .ok (.iload_n 2, 1) := by decide +kernel
theorem dX6_isAhead_73 : decode cX6_isAhead 73 = .ok (.invokevirtual 106, 3) := by decide +kernel
theorem dX6_isAhead_76 : decode cX6_isAhead 76 = .ok (.ineg, 1) := by decide +kernel
theorem dX6_isAhead_77 : decode cX6_isAhead 77 = .ok (.goto 42, 3) := by decide +kernel
theorem dX6_isAhead_80 : decode cX6_isAhead 80 = .ok (.aload_n 0, 1) := by decide +kernel
theorem dX6_isAhead_81 : decode cX6_isAhead 81 = .ok (.getfield 13, 3) := by decide +kernel
theorem dX6_isAhead_84 : decode cX6_isAhead 84 = .ok (.bipush 11, 2) := by decide +kernel
theorem dX6_isAhead_86 : decode cX6_isAhead 86 = .ok (.iaload, 1) := by decide +kernel
theorem dX6_isAhead_87 : decode cX6_isAhead 87 = .ok (.iconst 2, 1) := by decide +kernel
theorem dX6_isAhead_88 : decode cX6_isAhead 88 = .ok (.if_icmp .ne 11, 3) := by decide +kernel
theorem dX6_isAhead_91 : decode cX6_isAhead 91 = .ok (.aload_n 0, 1) := by decide +kernel
theorem dX6_isAhead_92 : decode cX6_isAhead 92 = .ok (.iload_n 2, 1) := by decide +kernel
theorem dX6_isAhead_93 : decode cX6_isAhead 93 = .ok (.invokevirtual 106, 3) := by decide +kernel
theorem dX6_isAhead_96 : decode cX6_isAhead 96 = .ok (.goto 23, 3) := by decide +kernel
theorem dX6_isAhead_99 : decode cX6_isAhead 99 = .ok (.aload_n 0, 1) := by decide +kernel
theorem dX6_isAhead_100 : decode cX6_isAhead 100 = .ok (.getfield 13, 3) := by decide +kernel
theorem dX6_isAhead_103 : decode cX6_isAhead 103 = .ok (.bipush 11, 2) := by decide +kernel
theorem dX6_isAhead_105 : decode cX6_isAhead 105 = .ok (.iaload, 1) := by decide +kernel
theorem dX6_isAhead_106 : decode cX6_isAhead 106 = .ok (.iconst 3, 1) := by decide +kernel
theorem dX6_isAhead_107 : decode cX6_isAhead 107 = .ok (.if_icmp .ne 11, 3) := by decide +kernel
theorem dX6_isAhead_110 : decode cX6_isAhead 110 = .ok (.aload_n 0, 1) := by decide +kernel
theorem dX6_isAhead_111 : decode cX6_isAhead 111 = .ok (.iload_n 2, 1) := by decide +kernel
theorem dX6_isAhead_112 : decode cX6_isAhead 112 = .ok (.invokevirtual 151, 3) := by decide +kernel
theorem dX6_isAhead_115 : decode cX6_isAhead 115 = .ok (.goto 4, 3) := by decide +kernel
theorem dX6_isAhead_118 : decode cX6_isAhead 118 = .ok (.iconst 0, 1) := by decide +kernel
theorem dX6_isAhead_119 : decode cX6_isAhead 119 = .ok (.istore 4, 2) := by decide +kernel
theorem dX6_isAhead_121 : decode cX6_isAhead 121 = .ok (.iload_n 3, 1) := by decide +kernel
theorem dX6_isAhead_122 : decode cX6_isAhead 122 = .ok (.iload 4, 2) := by decide +kernel
theorem dX6_isAhead_124 : decode cX6_isAhead 124 = .ok (.if_icmp .eq 15, 3) := by decide +kernel
theorem dX6_isAhead_127 : decode cX6_isAhead 127 = .ok (.iload_n 3, 1) := by decide +kernel
theorem dX6_isAhead_128 : decode cX6_isAhead 128 = .ok (.iload 4, 2) := by decide +kernel
theorem dX6_isAhead_130 : decode cX6_isAhead 130 = .ok (.if_icmp .ge 7, 3) := by decide +kernel
theorem dX6_isAhead_133 : decode cX6_isAhead 133 = .ok (.iconst 1, 1) := by decide +kernel
theorem dX6_isAhead_134 : decode cX6_isAhead 134 = .ok (.goto 4, 3) := by decide +kernel
theorem dX6_isAhead_137 : decode cX6_isAhead 137 = .ok (.iconst 0, 1) := by decide +kernel
theorem dX6_isAhead_138 : decode cX6_isAhead 138 = .ok (.ireturn, 1) := by decide +kernel
theorem dX6_isAhead_139 : decode cX6_isAhead 139 = .ok (.aload_n 0, 1) := by decide +kernel
theorem dX6_isAhead_140 : decode cX6_isAhead 140 = .ok (.iload_n 1, 1) := by decide +kernel
theorem dX6_isAhead_141 : decode cX6_isAhead 141 = .ok (.invokevirtual 148, 3) := by decide +kernel
theorem dX6_isAhead_144 : decode cX6_isAhead 144 = .ok (.aload_n 0, 1) := by decide +kernel
theorem dX6_isAhead_145 : decode cX6_isAhead 145 = .ok (.iload_n 2, 1) := by decide +kernel
theorem dX6_isAhead_146 : decode cX6_isAhead 146 = .ok (.invokevirtual 148, 3) := by decide +kernel
theorem dX6_isAhead_149 : decode cX6_isAhead 149 = .ok (.if_icmp .eq 24, 3) := by decide +kernel
theorem dX6_isAhead_152 : decode cX6_isAhead 152 = .ok (.aload_n 0, 1) := by decide +kernel
theorem dX6_isAhead_153 : decode cX6_isAhead 153 = .ok (.iload_n 1, 1) := by decide +kernel
theorem dX6_isAhead_154 : decode cX6_isAhead 154 = .ok (.invokevirtual 148, 3) := by decide +kernel
theorem dX6_isAhead_157 : decode cX6_isAhead 157 = .ok (.aload_n 0, 1) := by decide +kernel
theorem dX6_isAhead_158 : decode cX6_isAhead 158 = .ok (.iload_n 2, 1) := by decide +kernel
theorem dX6_isAhead_159 : decode cX6_isAhead 159 = .ok (.invokevirtual 148, 3) := by decide +kernel
theorem dX6_isAhead_162 : decode cX6_isAhead 162 = .ok (.if_icmp .ge 7, 3) := by decide +kernel
theorem dX6_isAhead_165 : decode cX6_isAhead 165 = .ok (.iconst 1, 1) := by decide +kernel
theorem dX6_isAhead_166 : decode cX6_isAhead 166 = .ok (.goto 17, 3) := by decide +kernel
theorem dX6_isAhead_169 : decode cX6_isAhead 169 = .ok (.iconst 0, 1) := by decide +kernel
theorem dX6_isAhead_170 : decode cX6_isAhead 170 = .ok (.goto 13, 3) := by decide +kernel
theorem dX6_isAhead_173 : decode cX6_isAhead 173 = .ok (.iload_n 1, 1) := by decide +kernel
theorem dX6_isAhead_174 : decode cX6_isAhead 174 = .ok (.iload_n 2, 1) := by decide +kernel
theorem dX6_isAhead_175 : decode cX6_isAhead 175 = .ok (.if_icmp .ge 7, 3) := by decide +kernel
theorem dX6_isAhead_178 : decode cX6_isAhead 178 = .ok (.iconst 1, 1) := by decide +kernel
theorem dX6_isAhead_179 : decode cX6_isAhead 179 = .ok (.goto 4, 3) := by decide +kernel
theorem dX6_isAhead_182 : decode cX6_isAhead 182 = .ok (.iconst 0, 1) := by decide +kernel
theorem dX6_isAhead_183 : decode cX6_isAhead 183 = .ok (.ireturn, 1) := by decide +kernel
theorem dX6_minute_0 : decode cX6_minute 0 = .ok (.aload_n 0, 1) := by decide +kernel
theorem dX6_minute_1 : decode cX6_minute 1 = .ok (.iload_n 1, 1) := by decide +kernel
theorem dX6_minute_2 : decode cX6_minute 2 = .ok (.invokevirtual 154, 3) := by decide +kernel
theorem dX6_minute_5 : decode cX6_minute 5 = .ok (.iconst 0, 1) := by decide +kernel
theorem dX6_minute_6 : decode cX6_minute 6 = .ok (.istore_n 2, 1) := by decide +kernel
theorem dX6_minute_7 : decode cX6_minute 7 = .ok (.iconst 0, 1) := by decide +kernel
theorem dX6_minute_8 : decode cX6_minute 8 = .ok (.istore_n 3, 1) := by decide +kernel
theorem dX6_minute_9 : decode cX6_minute 9 = .ok (.iload_n 3, 1) := by decide +kernel
theorem dX6_minute_10 : decode cX6_minute 10 = .ok (.aload_n 0, 1) := by decide +kernel
theorem dX6_minute_11 : decode cX6_minute 11 = .ok (.getfield 13, 3) := by decide +kernel
theorem dX6_minute_14 : decode cX6_minute 14 = .ok (.iconst 1, 1) := by decide +kernel
theorem dX6_minute_15 : decode cX6_minute 15 = .ok (.iaload, 1) := by decide +kernel
theorem dX6_minute_16 : decode cX6_minute 16 = .ok (.if_icmp .ge 28, 3) := by decide +kernel
theorem dX6_minute_19 : decode cX6_minute 19 = .ok (.iload_n 2, 1) := by decide +kernel
theorem dX6_minute_20 : decode cX6_minute 20 = .ok (.ifCond .ne 12, 3) := by decide +kernel
theorem dX6_minute_23 : decode cX6_minute 23 = .ok (.aload_n 0, 1) := by decide +kernel
theorem dX6_minute_24 : decode cX6_minute 24 = .ok (.iload_n 1, 1) := by decide +kernel
theorem dX6_minute_25 : decode cX6_minute 25 = .ok (.iload_n 3, 1) := by decide +kernel
theorem dX6_minute_26 : decode cX6_minute 26 = .ok (.invokevirtual 158, 3) := by decide +kernel
theorem dX6_minute_29 : decode cX6_minute 29 = .ok (.ifCond .eq 7, 3) := by decide +kernel
theorem dX6_minute_32 : decode cX6_minute 32 = .ok (.iconst 1, 1) := by decide +kernel
theorem dX6_minute_33 : decode cX6_minute 33 = .ok (.goto 4, 3) := by decide +kernel
theorem dX6_minute_36 : decode cX6_minute 36 = .ok (.iconst 0, 1) := by decide +kernel
theorem dX6_minute_37 : decode cX6_minute 37 = .ok (.istore_n 2, 1) := by decide +kernel
theorem dX6_minute_38 : decode cX6_minute 38 = .ok (.iinc 3 1, 3) := by decide +kernel
theorem dX6_minute_41 : decode cX6_minute 41 = .ok (.goto (-32), 3) := by decide +kernel
theorem dX6_minute_44 : decode cX6_minute 44 = .ok (.aload_n 0, 1) := by decide +kernel
theorem dX6_minute_45 : decode cX6_minute 45 = .ok (.getfield 124, 3) := by decide +kernel
theorem dX6_minute_48 : decode cX6_minute 48 = .ok (.ifCond .le 38, 3) := by decide +kernel
theorem dX6_minute_51 : decode cX6_minute 51 = .ok (.aload_n 0, 1) := by decide +kernel
theorem dX6_minute_52 : decode cX6_minute 52 = .ok (.iload_n 1, 1) := by decide +kernel
theorem dX6_minute_53 : decode cX6_minute 53 = .ok (.invokevirtual 161, 3) := by decide +kernel
theorem dX6_minute_56 : decode cX6_minute 56 = .ok (.ifCond .eq 30, 3) := by decide +kernel
theorem dX6_minute_59 : decode cX6_minute 59 = .ok (.aload_n 0, 1) := by decide +kernel
theorem dX6_minute_60 : decode cX6_minute 60 = .ok (.getfield 13, 3) := by decide +kernel
theorem dX6_minute_63 : decode cX6_minute 63 = .ok (.bipush 12, 2) := by decide +kernel
theorem dX6_minute_65 : decode cX6_minute 65 = .ok (.iaload, 1) := by decide +kernel
theorem dX6_minute_66 : decode cX6_minute 66 = .ok (.ifCond .eq 14, 3) := by decide +kernel
theorem dX6_minute_69 : decode cX6_minute 69 = .ok (.aload_n 0, 1) := by decide +kernel
theorem dX6_minute_70 : decode cX6_minute 70 = .ok (.getfield 121, 3) := by decide +kernel
theorem dX6_minute_73 : decode cX6_minute 73 = .ok (.ifCond .eq 7, 3) := by decide +kernel
theorem dX6_minute_76 : decode cX6_minute 76 = .ok (.iload_n 2, 1) := by decide +kernel
theorem dX6_minute_77 : decode cX6_minute 77 = .ok (.ifCond .ne 9, 3) := by decide +kernel
theorem dX6_minute_80 : decode cX6_minute 80 = .ok (.aload_n 0, 1) := by decide +kernel
theorem dX6_minute_81 : decode cX6_minute 81 = .ok (.iload_n 1, 1) := by decide +kernel
theorem dX6_minute_82 : decode cX6_minute 82 = .ok (.invokevirtual 164, 3) := by decide +kernel
theorem dX6_minute_85 : decode cX6_minute 85 = .ok (.return_, 1) := by decide +kernel
theorem dX6_minute_86 : decode cX6_minute 86 = .ok (.bipush (-9), 2) := by decide +kernel
theorem dX6_minute_88 : decode cX6_minute 88 = .ok (.istore_n 3, 1) := by decide +kernel
theorem dX6_minute_89 : decode cX6_minute 89 = .ok (.iconst 0, 1) := by decide +kernel
theorem dX6_minute_90 : decode cX6_minute 90 = .ok (.istore 4, 2) := by decide +kernel
theorem dX6_minute_92 : decode cX6_minute 92 = .ok (.iload 4, 2) := by decide +kernel
theorem dX6_minute_94 : decode cX6_minute 94 = .ok (.aload_n 0, 1) := by decide +kernel
theorem dX6_minute_95 : decode cX6_minute 95 = .ok (.getfield 13, 3) := by decide +kernel
theorem dX6_minute_98 : decode cX6_minute 98 = .ok (.iconst 1, 1) := by decide +kernel
theorem dX6_minute_99 : decode cX6_minute 99 = .ok (.iaload, 1) := by decide +kernel
theorem dX6_minute_100 : decode cX6_minute 100 = .ok (.if_icmp .ge 62, 3) := by decide +kernel
theorem dX6_minute_103 : decode cX6_minute 103 = .ok (.aload_n 0, 1) := by decide +kernel
theorem dX6_minute_104 : decode cX6_minute 104 = .ok (.iload_n 1, 1) := by decide +kernel
theorem dX6_minute_105 : decode cX6_minute 105 = .ok (.iload 4, 2) := by decide +kernel
theorem dX6_minute_107 : decode cX6_minute 107 = .ok (.invokevirtual 158, 3) := by decide +kernel
theorem dX6_minute_110 : decode cX6_minute 110 = .ok (.ifCond .eq 46, 3) := by decide +kernel
theorem dX6_minute_113 : decode cX6_minute 113 = .ok (.aload_n 0, 1) := by decide +kernel
theorem dX6_minute_114 : decode cX6_minute 114 = .ok (.iload 4, 2) := by decide +kernel
theorem dX6_minute_116 : decode cX6_minute 116 = .ok (.invokevirtual 167, 3) := by decide +kernel
theorem dX6_minute_119 : decode cX6_minute 119 = .ok (.ifCond .eq 37, 3) := by decide +kernel
theorem dX6_minute_122 : decode cX6_minute 122 = .ok (.aload_n 0, 1) := by decide +kernel
theorem dX6_minute_123 : decode cX6_minute 123 = .ok (.iload_n 1, 1) := by decide +kernel
theorem dX6_minute_124 : decode cX6_minute 124 = .ok (.iload 4, 2) := by decide +kernel
theorem dX6_minute_126 : decode cX6_minute 126 = .ok (.invokevirtual 170, 3) := by decide +kernel
theorem dX6_minute_129 : decode cX6_minute 129 = .ok (.ifCond .ne 6, 3) := by decide +kernel
theorem dX6_minute_132 : decode cX6_minute 132 = .ok (.goto 24, 3) := by decide +kernel
theorem dX6_minute_135 : decode cX6_minute 135 = .ok (.iload_n 3, 1) := by decide +kernel
theorem dX6_minute_136 : decode cX6_minute 136 = .ok (.ifCond .lt 13, 3) := by decide +kernel
theorem dX6_minute_139 : decode cX6_minute 139 = .ok (.aload_n 0, 1) := by decide +kernel
theorem dX6_minute_140 : decode cX6_minute 140 = .ok (.iload 4, 2) := by decide +kernel
theorem dX6_minute_142 : decode cX6_minute 142 = .ok (.iload_n 3, 1) := by decide +kernel
theorem dX6_minute_143 : decode cX6_minute 143 = .ok (.invokevirtual 173, 3) := by decide +kernel
theorem dX6_minute_146 : decode cX6_minute 146 = .ok (.ifCond .eq 8, 3) := by decide +kernel
theorem dX6_minute_149 : decode cX6_minute 149 = .ok (.iload 4, 2) := by decide +kernel
theorem dX6_minute_151 : decode cX6_minute 151 = .ok (.goto 4, 3) := by decide +kernel
theorem dX6_minute_154 : decode cX6_minute 154 = .ok (.iload_n 3, 1) := by decide +kernel
theorem dX6_minute_155 : decode cX6_minute 155 = .ok (.istore_n 3, 1) := by decide +kernel
theorem dX6_minute_156 : decode cX6_minute 156 = .ok (.iinc 4 1, 3) := by decide +kernel
theorem dX6_minute_159 : decode cX6_minute 159 = .ok (.goto (-67), 3) := by decide +kernel
theorem dX6_minute_162 : decode cX6_minute 162 = .ok (.iload_n 3, 1) := by decide +kernel
theorem dX6_minute_163 : decode cX6_minute 163 = .ok (.ifCond .lt 9, 3) := by decide +kernel
theorem dX6_minute_166 : decode cX6_minute 166 = .ok (.aload_n 0, 1) := by decide +kernel
theorem dX6_minute_167 : decode cX6_minute 167 = .ok (.iload_n 1, 1) := by decide +kernel
theorem dX6_minute_168 : decode cX6_minute 168 = .ok (.iload_n 3, 1) := by decide +kernel
theorem dX6_minute_169 : decode cX6_minute 169 = .ok (.invokevirtual 176, 3) := by decide +kernel
theorem dX6_minute_172 : decode cX6_minute 172 = .ok (.return_, 1) := by decide +kernel
theorem dX6_day_0 : decode cX6_day 0 = .ok (.aload_n 0, 1) := by decide +kernel
theorem dX6_day_1 : decode cX6_day 1 = .ok (.invokevirtual 180, 3) := by decide +kernel
theorem dX6_day_4 : decode cX6_day 4 = .ok (.iconst 0, 1) := by decide +kernel
theorem dX6_day_5 : decode cX6_day 5 = .ok (.istore_n 1, 1) := by decide +kernel
theorem dX6_day_6 : decode cX6_day 6 = .ok (.iload_n 1, 1) := by decide +kernel
theorem dX6_day_7 : decode cX6_day 7 = .ok (.sipush 1440, 3) := by decide +kernel
theorem dX6_day_10 : decode cX6_day 10 = .ok (.if_icmp .gt 14, 3) := by decide +kernel
theorem dX6_day_13 : decode cX6_day 13 = .ok (.aload_n 0, 1) := by decide +kernel
theorem dX6_day_14 : decode cX6_day 14 = .ok (.iload_n 1, 1) := by decide +kernel
theorem dX6_day_15 : decode cX6_day 15 = .ok (.invokevirtual 183, 3) := by decide +kernel
theorem dX6_day_18 : decode cX6_day 18 = .ok (.iinc 1 1, 3) := by decide +kernel
theorem dX6_day_21 : decode cX6_day 21 = .ok (.goto (-15), 3) := by decide +kernel
theorem dX6_day_24 : decode cX6_day 24 = .ok (.return_, 1) := by decide +kernel
theorem dX6_waited_0 : decode cX6_waited 0 = .ok (.aload_n 0, 1) := by decide +kernel
theorem dX6_waited_1 : decode cX6_waited 1 = .ok (.iload_n 1, 1) := by decide +kernel
theorem dX6_waited_2 : decode cX6_waited 2 = .ok (.invokevirtual 90, 3) := by decide +kernel
theorem dX6_waited_5 : decode cX6_waited 5 = .ok (.ifCond .ne 9, 3) := by decide +kernel
theorem dX6_waited_8 : decode cX6_waited 8 = .ok (.aload_n 0, 1) := by decide +kernel
theorem dX6_waited_9 : decode cX6_waited 9 = .ok (.iconst (-1), 1) := by decide +kernel
theorem dX6_waited_10 : decode cX6_waited 10 = .ok (.invokevirtual 50, 3) := by decide +kernel
theorem dX6_waited_13 : decode cX6_waited 13 = .ok (.ireturn, 1) := by decide +kernel
theorem dX6_waited_14 : decode cX6_waited 14 = .ok (.aload_n 0, 1) := by decide +kernel
theorem dX6_waited_15 : decode cX6_waited 15 = .ok (.invokevirtual 186, 3) := by decide +kernel
theorem dX6_waited_18 : decode cX6_waited 18 = .ok (.aload_n 0, 1) := by decide +kernel
theorem dX6_waited_19 : decode cX6_waited 19 = .ok (.getfield 34, 3) := by decide +kernel
theorem dX6_waited_22 : decode cX6_waited 22 = .ok (.iload_n 1, 1) := by decide +kernel
theorem dX6_waited_23 : decode cX6_waited 23 = .ok (.iaload, 1) := by decide +kernel
theorem dX6_waited_24 : decode cX6_waited 24 = .ok (.ifCond .ge 8, 3) := by decide +kernel
theorem dX6_waited_27 : decode cX6_waited 27 = .ok (.bipush (-9), 2) := by decide +kernel
theorem dX6_waited_29 : decode cX6_waited 29 = .ok (.goto 15, 3) := by decide +kernel
theorem dX6_waited_32 : decode cX6_waited 32 = .ok (.aload_n 0, 1) := by decide +kernel
theorem dX6_waited_33 : decode cX6_waited 33 = .ok (.getfield 34, 3) := by decide +kernel
theorem dX6_waited_36 : decode cX6_waited 36 = .ok (.iload_n 1, 1) := by decide +kernel
theorem dX6_waited_37 : decode cX6_waited 37 = .ok (.iaload, 1) := by decide +kernel
theorem dX6_waited_38 : decode cX6_waited 38 = .ok (.aload_n 0, 1) := by decide +kernel
theorem dX6_waited_39 : decode cX6_waited 39 = .ok (.iload_n 1, 1) := by decide +kernel
theorem dX6_waited_40 : decode cX6_waited 40 = .ok (.invokevirtual 148, 3) := by decide +kernel
theorem dX6_waited_43 : decode cX6_waited 43 = .ok (.isub, 1) := by decide +kernel
theorem dX6_waited_44 : decode cX6_waited 44 = .ok (.ireturn, 1) := by decide +kernel
theorem dX6_began_0 : decode cX6_began 0 = .ok (.aload_n 0, 1) := by decide +kernel
theorem dX6_began_1 : decode cX6_began 1 = .ok (.iload_n 1, 1) := by decide +kernel
theorem dX6_began_2 : decode cX6_began 2 = .ok (.invokevirtual 90, 3) := by decide +kernel
theorem dX6_began_5 : decode cX6_began 5 = .ok (.ifCond .ne 9, 3) := by decide +kernel
theorem dX6_began_8 : decode cX6_began 8 = .ok (.aload_n 0, 1) := by decide +kernel
theorem dX6_began_9 : decode cX6_began 9 = .ok (.iconst (-1), 1) := by decide +kernel
theorem dX6_began_10 : decode cX6_began 10 = .ok (.invokevirtual 50, 3) := by decide +kernel
theorem dX6_began_13 : decode cX6_began 13 = .ok (.ireturn, 1) := by decide +kernel
theorem dX6_began_14 : decode cX6_began 14 = .ok (.aload_n 0, 1) := by decide +kernel
theorem dX6_began_15 : decode cX6_began 15 = .ok (.invokevirtual 186, 3) := by decide +kernel
theorem dX6_began_18 : decode cX6_began 18 = .ok (.aload_n 0, 1) := by decide +kernel
theorem dX6_began_19 : decode cX6_began 19 = .ok (.getfield 34, 3) := by decide +kernel
theorem dX6_began_22 : decode cX6_began 22 = .ok (.iload_n 1, 1) := by decide +kernel
theorem dX6_began_23 : decode cX6_began 23 = .ok (.iaload, 1) := by decide +kernel
theorem dX6_began_24 : decode cX6_began 24 = .ok (.ireturn, 1) := by decide +kernel
theorem dX6_allOf_0 : decode cX6_allOf 0 = .ok (.aload_n 0, 1) := by decide +kernel
theorem dX6_allOf_1 : decode cX6_allOf 1 = .ok (.invokevirtual 186, 3) := by decide +kernel
theorem dX6_allOf_4 : decode cX6_allOf 4 = .ok (.iconst 0, 1) := by decide +kernel
theorem dX6_allOf_5 : decode cX6_allOf 5 = .ok (.istore_n 1, 1) := by decide +kernel
theorem dX6_allOf_6 : decode cX6_allOf 6 = .ok (.iconst 0, 1) := by decide +kernel
theorem dX6_allOf_7 : decode cX6_allOf 7 = .ok (.istore_n 2, 1) := by decide +kernel
theorem dX6_allOf_8 : decode cX6_allOf 8 = .ok (.iload_n 2, 1) := by decide +kernel
theorem dX6_allOf_9 : decode cX6_allOf 9 = .ok (.aload_n 0, 1) := by decide +kernel
theorem dX6_allOf_10 : decode cX6_allOf 10 = .ok (.getfield 13, 3) := by decide +kernel
theorem dX6_allOf_13 : decode cX6_allOf 13 = .ok (.iconst 1, 1) := by decide +kernel
theorem dX6_allOf_14 : decode cX6_allOf 14 = .ok (.iaload, 1) := by decide +kernel
theorem dX6_allOf_15 : decode cX6_allOf 15 = .ok (.if_icmp .ge 58, 3) := by decide +kernel
theorem dX6_allOf_18 : decode cX6_allOf 18 = .ok (.iload_n 1, 1) := by decide +kernel
theorem dX6_allOf_19 : decode cX6_allOf 19 = .ok (.aload_n 0, 1) := by decide +kernel
theorem dX6_allOf_20 : decode cX6_allOf 20 = .ok (.getfield 34, 3) := by decide +kernel
theorem dX6_allOf_23 : decode cX6_allOf 23 = .ok (.iload_n 2, 1) := by decide +kernel
theorem dX6_allOf_24 : decode cX6_allOf 24 = .ok (.iaload, 1) := by decide +kernel
theorem dX6_allOf_25 : decode cX6_allOf 25 = .ok (.ifCond .lt 18, 3) := by decide +kernel
theorem dX6_allOf_28 : decode cX6_allOf 28 = .ok (.aload_n 0, 1) := by decide +kernel
theorem dX6_allOf_29 : decode cX6_allOf 29 = .ok (.getfield 34, 3) := by decide +kernel
theorem dX6_allOf_32 : decode cX6_allOf 32 = .ok (.iload_n 2, 1) := by decide +kernel
theorem dX6_allOf_33 : decode cX6_allOf 33 = .ok (.iaload, 1) := by decide +kernel
theorem dX6_allOf_34 : decode cX6_allOf 34 = .ok (.aload_n 0, 1) := by decide +kernel
theorem dX6_allOf_35 : decode cX6_allOf 35 = .ok (.iload_n 2, 1) := by decide +kernel
theorem dX6_allOf_36 : decode cX6_allOf 36 = .ok (.invokevirtual 148, 3) := by decide +kernel
theorem dX6_allOf_39 : decode cX6_allOf 39 = .ok (.isub, 1) := by decide +kernel
theorem dX6_allOf_40 : decode cX6_allOf 40 = .ok (.goto 25, 3) := by decide +kernel
theorem dX6_allOf_43 : decode cX6_allOf 43 = .ok (.aload_n 0, 1) := by decide +kernel
theorem dX6_allOf_44 : decode cX6_allOf 44 = .ok (.iload_n 2, 1) := by decide +kernel
theorem dX6_allOf_45 : decode cX6_allOf 45 = .ok (.invokevirtual 112, 3) := by decide +kernel
theorem dX6_allOf_48 : decode cX6_allOf 48 = .ok (.iconst 3, 1) := by decide +kernel
theorem dX6_allOf_49 : decode cX6_allOf 49 = .ok (.if_icmp .ne 7, 3) := by decide +kernel
theorem dX6_allOf_52 : decode cX6_allOf 52 = .ok (.iconst 0, 1) := by decide +kernel
theorem dX6_allOf_53 : decode cX6_allOf 53 = .ok (.goto 12, 3) := by decide +kernel
theorem dX6_allOf_56 : decode cX6_allOf 56 = .ok (.sipush 1440, 3) := by decide +kernel
theorem dX6_allOf_59 : decode cX6_allOf 59 = .ok (.aload_n 0, 1) := by decide +kernel
theorem dX6_allOf_60 : decode cX6_allOf 60 = .ok (.iload_n 2, 1) := by decide +kernel
theorem dX6_allOf_61 : decode cX6_allOf 61 = .ok (.invokevirtual 148, 3) := by decide +kernel
theorem dX6_allOf_64 : decode cX6_allOf 64 = .ok (.isub, 1) := by decide +kernel
theorem dX6_allOf_65 : decode cX6_allOf 65 = .ok (.iadd, 1) := by decide +kernel
theorem dX6_allOf_66 : decode cX6_allOf 66 = .ok (.istore_n 1, 1) := by decide +kernel
theorem dX6_allOf_67 : decode cX6_allOf 67 = .ok (.iinc 2 1, 3) := by decide +kernel
theorem dX6_allOf_70 : decode cX6_allOf 70 = .ok (.goto (-62), 3) := by decide +kernel
theorem dX6_allOf_73 : decode cX6_allOf 73 = .ok (.iload_n 1, 1) := by decide +kernel
theorem dX6_allOf_74 : decode cX6_allOf 74 = .ok (.ireturn, 1) := by decide +kernel
theorem dX6_allWaited_0 : decode cX6_allWaited 0 = .ok (.aload_n 0, 1) := by decide +kernel
theorem dX6_allWaited_1 : decode cX6_allWaited 1 = .ok (.invokevirtual 189, 3) := by decide +kernel
theorem dX6_allWaited_4 : decode cX6_allWaited 4 = .ok (.ireturn, 1) := by decide +kernel
theorem dX6_downs_0 : decode cX6_downs 0 = .ok (.aload_n 0, 1) := by decide +kernel
theorem dX6_downs_1 : decode cX6_downs 1 = .ok (.invokevirtual 186, 3) := by decide +kernel
theorem dX6_downs_4 : decode cX6_downs 4 = .ok (.aload_n 0, 1) := by decide +kernel
theorem dX6_downs_5 : decode cX6_downs 5 = .ok (.getfield 127, 3) := by decide +kernel
theorem dX6_downs_8 : decode cX6_downs 8 = .ok (.ireturn, 1) := by decide +kernel
theorem dX6_keeps_0 : decode cX6_keeps 0 = .ok (.iconst 0, 1) := by decide +kernel
theorem dX6_keeps_1 : decode cX6_keeps 1 = .ok (.istore_n 1, 1) := by decide +kernel
theorem dX6_keeps_2 : decode cX6_keeps 2 = .ok (.iload_n 1, 1) := by decide +kernel
theorem dX6_keeps_3 : decode cX6_keeps 3 = .ok (.bipush 47, 2) := by decide +kernel
theorem dX6_keeps_5 : decode cX6_keeps 5 = .ok (.if_icmp .ge 21, 3) := by decide +kernel
theorem dX6_keeps_8 : decode cX6_keeps 8 = .ok (.aload_n 0, 1) := by decide +kernel
theorem dX6_keeps_9 : decode cX6_keeps 9 = .ok (.getfield 37, 3) := by decide +kernel
theorem dX6_keeps_12 : decode cX6_keeps 12 = .ok (.iload_n 1, 1) := by decide +kernel
theorem dX6_keeps_13 : decode cX6_keeps 13 = .ok (.aload_n 0, 1) := by decide +kernel
theorem dX6_keeps_14 : decode cX6_keeps 14 = .ok (.getfield 13, 3) := by decide +kernel
theorem dX6_keeps_17 : decode cX6_keeps 17 = .ok (.iload_n 1, 1) := by decide +kernel
theorem dX6_keeps_18 : decode cX6_keeps 18 = .ok (.iaload, 1) := by decide +kernel
theorem dX6_keeps_19 : decode cX6_keeps 19 = .ok (.iastore, 1) := by decide +kernel
theorem dX6_keeps_20 : decode cX6_keeps 20 = .ok (.iinc 1 1, 3) := by decide +kernel
theorem dX6_keeps_23 : decode cX6_keeps 23 = .ok (.goto (-21), 3) := by decide +kernel
theorem dX6_keeps_26 : decode cX6_keeps 26 = .ok (.return_, 1) := by decide +kernel
theorem dX6_putsBack_0 : decode cX6_putsBack 0 = .ok (.iconst 0, 1) := by decide +kernel
theorem dX6_putsBack_1 : decode cX6_putsBack 1 = .ok (.istore_n 1, 1) := by decide +kernel
theorem dX6_putsBack_2 : decode cX6_putsBack 2 = .ok (.iload_n 1, 1) := by decide +kernel
theorem dX6_putsBack_3 : decode cX6_putsBack 3 = .ok (.bipush 47, 2) := by decide +kernel
theorem dX6_putsBack_5 : decode cX6_putsBack 5 = .ok (.if_icmp .ge 21, 3) := by decide +kernel
theorem dX6_putsBack_8 : decode cX6_putsBack 8 = .ok (.aload_n 0, 1) := by decide +kernel
theorem dX6_putsBack_9 : decode cX6_putsBack 9 = .ok (.getfield 13, 3) := by decide +kernel
theorem dX6_putsBack_12 : decode cX6_putsBack 12 = .ok (.iload_n 1, 1) := by decide +kernel
theorem dX6_putsBack_13 : decode cX6_putsBack 13 = .ok (.aload_n 0, 1) := by decide +kernel
theorem dX6_putsBack_14 : decode cX6_putsBack 14 = .ok (.getfield 37, 3) := by decide +kernel
theorem dX6_putsBack_17 : decode cX6_putsBack 17 = .ok (.iload_n 1, 1) := by decide +kernel
theorem dX6_putsBack_18 : decode cX6_putsBack 18 = .ok (.iaload, 1) := by decide +kernel
theorem dX6_putsBack_19 : decode cX6_putsBack 19 = .ok (.iastore, 1) := by decide +kernel
theorem dX6_putsBack_20 : decode cX6_putsBack 20 = .ok (.iinc 1 1, 3) := by decide +kernel
theorem dX6_putsBack_23 : decode cX6_putsBack 23 = .ok (.goto (-21), 3) := by decide +kernel
theorem dX6_putsBack_26 : decode cX6_putsBack 26 = .ok (.return_, 1) := by decide +kernel
theorem dX6_goesOn_0 : decode cX6_goesOn 0 = .ok (.iload_n 1, 1) := by decide +kernel
theorem dX6_goesOn_1 : decode cX6_goesOn 1 = .ok (.aload_n 0, 1) := by decide +kernel
theorem dX6_goesOn_2 : decode cX6_goesOn 2 = .ok (.getfield 13, 3) := by decide +kernel
theorem dX6_goesOn_5 : decode cX6_goesOn 5 = .ok (.iconst 1, 1) := by decide +kernel
theorem dX6_goesOn_6 : decode cX6_goesOn 6 = .ok (.iaload, 1) := by decide +kernel
theorem dX6_goesOn_7 : decode cX6_goesOn 7 = .ok (.if_icmp .ne 62, 3) := by decide +kernel
theorem dX6_goesOn_10 : decode cX6_goesOn 10 = .ok (.aload_n 0, 1) := by decide +kernel
theorem dX6_goesOn_11 : decode cX6_goesOn 11 = .ok (.invokevirtual 189, 3) := by decide +kernel
theorem dX6_goesOn_14 : decode cX6_goesOn 14 = .ok (.istore_n 3, 1) := by decide +kernel
theorem dX6_goesOn_15 : decode cX6_goesOn 15 = .ok (.aload_n 0, 1) := by decide +kernel
theorem dX6_goesOn_16 : decode cX6_goesOn 16 = .ok (.getfield 192, 3) := by decide +kernel
theorem dX6_goesOn_19 : decode cX6_goesOn 19 = .ok (.ifCond .lt 12, 3) := by decide +kernel
theorem dX6_goesOn_22 : decode cX6_goesOn 22 = .ok (.iload_n 3, 1) := by decide +kernel
theorem dX6_goesOn_23 : decode cX6_goesOn 23 = .ok (.aload_n 0, 1) := by decide +kernel
theorem dX6_goesOn_24 : decode cX6_goesOn 24 = .ok (.getfield 192, 3) := by decide +kernel
theorem dX6_goesOn_27 : decode cX6_goesOn 27 = .ok (.if_icmp .lt 4, 3) := by decide +kernel
theorem dX6_goesOn_30 : decode cX6_goesOn 30 = .ok (.return_, 1) := by decide +kernel
theorem dX6_goesOn_31 : decode cX6_goesOn 31 = .ok (.aload_n 0, 1) := by decide +kernel
theorem dX6_goesOn_32 : decode cX6_goesOn 32 = .ok (.iload_n 3, 1) := by decide +kernel
theorem dX6_goesOn_33 : decode cX6_goesOn 33 = .ok (.putfield 192, 3) := by decide +kernel
theorem dX6_goesOn_36 : decode cX6_goesOn 36 = .ok (.iconst 0, 1) := by decide +kernel
theorem dX6_goesOn_37 : decode cX6_goesOn 37 = .ok (.istore 4, 2) := by decide +kernel
theorem dX6_goesOn_39 : decode cX6_goesOn 39 = .ok (.iload 4, 2) := by decide +kernel
theorem dX6_goesOn_41 : decode cX6_goesOn 41 = .ok (.iload_n 1, 1) := by decide +kernel
theorem dX6_goesOn_42 : decode cX6_goesOn 42 = .ok (.if_icmp .ge 26, 3) := by decide +kernel
theorem dX6_goesOn_45 : decode cX6_goesOn 45 = .ok (.aload_n 0, 1) := by decide +kernel
theorem dX6_goesOn_46 : decode cX6_goesOn 46 = .ok (.getfield 40, 3) := by decide +kernel
theorem dX6_goesOn_49 : decode cX6_goesOn 49 = .ok (.iload 4, 2) := by decide +kernel
theorem dX6_goesOn_51 : decode cX6_goesOn 51 = .ok (.aload_n 0, 1) := by decide +kernel
theorem dX6_goesOn_52 : decode cX6_goesOn 52 = .ok (.getfield 13, 3) := by decide +kernel
theorem dX6_goesOn_55 : decode cX6_goesOn 55 = .ok (.bipush 39, 2) := by decide +kernel
theorem dX6_goesOn_57 : decode cX6_goesOn 57 = .ok (.iload 4, 2) := by decide +kernel
theorem dX6_goesOn_59 : decode cX6_goesOn 59 = .ok (.iadd, 1) := by decide +kernel
theorem dX6_goesOn_60 : decode cX6_goesOn 60 = .ok (.iaload, 1) := by decide +kernel
theorem dX6_goesOn_61 : decode cX6_goesOn 61 = .ok (.iastore, 1) := by decide +kernel
theorem dX6_goesOn_62 : decode cX6_goesOn 62 = .ok (.iinc 4 1, 3) := by decide +kernel
theorem dX6_goesOn_65 : decode cX6_goesOn 65 = .ok (.goto (-26), 3) := by decide +kernel
theorem dX6_goesOn_68 : decode cX6_goesOn 68 = .ok (.return_, 1) := by decide +kernel
theorem dX6_goesOn_69 : decode cX6_goesOn 69 = .ok (.iconst 0, 1) := by decide +kernel
theorem dX6_goesOn_70 : decode cX6_goesOn 70 = .ok (.istore_n 3, 1) := by decide +kernel
theorem dX6_goesOn_71 : decode cX6_goesOn 71 = .ok (.iload_n 3, 1) := by decide +kernel
theorem dX6_goesOn_72 : decode cX6_goesOn 72 = .ok (.aload_n 0, 1) := by decide +kernel
theorem dX6_goesOn_73 : decode cX6_goesOn 73 = .ok (.getfield 13, 3) := by decide +kernel
theorem dX6_goesOn_76 : decode cX6_goesOn 76 = .ok (.iconst 1, 1) := by decide +kernel
theorem dX6_goesOn_77 : decode cX6_goesOn 77 = .ok (.iaload, 1) := by decide +kernel
theorem dX6_goesOn_78 : decode cX6_goesOn 78 = .ok (.if_icmp .ge 43, 3) := by decide +kernel
theorem dX6_goesOn_81 : decode cX6_goesOn 81 = .ok (.iload_n 2, 1) := by decide +kernel
theorem dX6_goesOn_82 : decode cX6_goesOn 82 = .ok (.iload_n 3, 1) := by decide +kernel
theorem dX6_goesOn_83 : decode cX6_goesOn 83 = .ok (.ishr, 1) := by decide +kernel
theorem dX6_goesOn_84 : decode cX6_goesOn 84 = .ok (.iconst 1, 1) := by decide +kernel
theorem dX6_goesOn_85 : decode cX6_goesOn 85 = .ok (.iand, 1) := by decide +kernel
theorem dX6_goesOn_86 : decode cX6_goesOn 86 = .ok (.iconst 1, 1) := by decide +kernel
theorem dX6_goesOn_87 : decode cX6_goesOn 87 = .ok (.if_icmp .ne 6, 3) := by decide +kernel
theorem dX6_goesOn_90 : decode cX6_goesOn 90 = .ok (.goto 25, 3) := by decide +kernel
theorem dX6_goesOn_93 : decode cX6_goesOn 93 = .ok (.aload_n 0, 1) := by decide +kernel
theorem dX6_goesOn_94 : decode cX6_goesOn 94 = .ok (.getfield 13, 3) := by decide +kernel
theorem dX6_goesOn_97 : decode cX6_goesOn 97 = .ok (.bipush 39, 2) := by decide +kernel
theorem dX6_goesOn_99 : decode cX6_goesOn 99 = .ok (.iload_n 1, 1) := by decide +kernel
theorem dX6_goesOn_100 : decode cX6_goesOn 100 = .ok (.iadd, 1) := by decide +kernel
theorem dX6_goesOn_101 : decode cX6_goesOn 101 = .ok (.iload_n 3, 1) := by decide +kernel
theorem dX6_goesOn_102 : decode cX6_goesOn 102 = .ok (.iastore, 1) := by decide +kernel
theorem dX6_goesOn_103 : decode cX6_goesOn 103 = .ok (.aload_n 0, 1) := by decide +kernel
theorem dX6_goesOn_104 : decode cX6_goesOn 104 = .ok (.iload_n 1, 1) := by decide +kernel
theorem dX6_goesOn_105 : decode cX6_goesOn 105 = .ok (.iconst 1, 1) := by decide +kernel
theorem dX6_goesOn_106 : decode cX6_goesOn 106 = .ok (.iadd, 1) := by decide +kernel
theorem dX6_goesOn_107 : decode cX6_goesOn 107 = .ok (.iload_n 2, 1) := by decide +kernel
theorem dX6_goesOn_108 : decode cX6_goesOn 108 = .ok (.iconst 1, 1) := by decide +kernel
theorem dX6_goesOn_109 : decode cX6_goesOn 109 = .ok (.iload_n 3, 1) := by decide +kernel
theorem dX6_goesOn_110 : decode cX6_goesOn 110 = .ok (.ishl, 1) := by decide +kernel
theorem dX6_goesOn_111 : decode cX6_goesOn 111 = .ok (.ior, 1) := by decide +kernel
theorem dX6_goesOn_112 : decode cX6_goesOn 112 = .ok (.invokevirtual 195, 3) := by decide +kernel
theorem dX6_goesOn_115 : decode cX6_goesOn 115 = .ok (.iinc 3 1, 3) := by decide +kernel
theorem dX6_goesOn_118 : decode cX6_goesOn 118 = .ok (.goto (-47), 3) := by decide +kernel
theorem dX6_goesOn_121 : decode cX6_goesOn 121 = .ok (.return_, 1) := by decide +kernel
theorem dX6_best_0 : decode cX6_best 0 = .ok (.iload_n 1, 1) := by decide +kernel
theorem dX6_best_1 : decode cX6_best 1 = .ok (.iconst (-1), 1) := by decide +kernel
theorem dX6_best_2 : decode cX6_best 2 = .ok (.if_icmp .ge 8, 3) := by decide +kernel
theorem dX6_best_5 : decode cX6_best 5 = .ok (.bipush (-4), 2) := by decide +kernel
theorem dX6_best_7 : decode cX6_best 7 = .ok (.goto 19, 3) := by decide +kernel
theorem dX6_best_10 : decode cX6_best 10 = .ok (.aload_n 0, 1) := by decide +kernel
theorem dX6_best_11 : decode cX6_best 11 = .ok (.getfield 13, 3) := by decide +kernel
theorem dX6_best_14 : decode cX6_best 14 = .ok (.iconst 1, 1) := by decide +kernel
theorem dX6_best_15 : decode cX6_best 15 = .ok (.iaload, 1) := by decide +kernel
theorem dX6_best_16 : decode cX6_best 16 = .ok (.iconst 5, 1) := by decide +kernel
theorem dX6_best_17 : decode cX6_best 17 = .ok (.if_icmp .le 8, 3) := by decide +kernel
theorem dX6_best_20 : decode cX6_best 20 = .ok (.bipush (-6), 2) := by decide +kernel
theorem dX6_best_22 : decode cX6_best 22 = .ok (.goto 4, 3) := by decide +kernel
theorem dX6_best_25 : decode cX6_best 25 = .ok (.iconst 0, 1) := by decide +kernel
theorem dX6_best_26 : decode cX6_best 26 = .ok (.istore_n 2, 1) := by decide +kernel
theorem dX6_best_27 : decode cX6_best 27 = .ok (.iload_n 2, 1) := by decide +kernel
theorem dX6_best_28 : decode cX6_best 28 = .ok (.ifCond .eq 9, 3) := by decide +kernel
theorem dX6_best_31 : decode cX6_best 31 = .ok (.aload_n 0, 1) := by decide +kernel
theorem dX6_best_32 : decode cX6_best 32 = .ok (.iload_n 2, 1) := by decide +kernel
theorem dX6_best_33 : decode cX6_best 33 = .ok (.invokevirtual 50, 3) := by decide +kernel
theorem dX6_best_36 : decode cX6_best 36 = .ok (.ireturn, 1) := by decide +kernel
theorem dX6_best_37 : decode cX6_best 37 = .ok (.aload_n 0, 1) := by decide +kernel
theorem dX6_best_38 : decode cX6_best 38 = .ok (.invokevirtual 198, 3) := by decide +kernel
theorem dX6_best_41 : decode cX6_best 41 = .ok (.aload_n 0, 1) := by decide +kernel
theorem dX6_best_42 : decode cX6_best 42 = .ok (.getfield 13, 3) := by decide +kernel
theorem dX6_best_45 : decode cX6_best 45 = .ok (.bipush 11, 2) := by decide +kernel
theorem dX6_best_47 : decode cX6_best 47 = .ok (.iconst 3, 1) := by decide +kernel
theorem dX6_best_48 : decode cX6_best 48 = .ok (.iastore, 1) := by decide +kernel
theorem dX6_best_49 : decode cX6_best 49 = .ok (.aload_n 0, 1) := by decide +kernel
theorem dX6_best_50 : decode cX6_best 50 = .ok (.getfield 13, 3) := by decide +kernel
theorem dX6_best_53 : decode cX6_best 53 = .ok (.iconst 3, 1) := by decide +kernel
theorem dX6_best_54 : decode cX6_best 54 = .ok (.aload_n 0, 1) := by decide +kernel
theorem dX6_best_55 : decode cX6_best 55 = .ok (.getfield 13, 3) := by decide +kernel
theorem dX6_best_58 : decode cX6_best 58 = .ok (.iconst 1, 1) := by decide +kernel
theorem dX6_best_59 : decode cX6_best 59 = .ok (.iaload, 1) := by decide +kernel
theorem dX6_best_60 : decode cX6_best 60 = .ok (.iastore, 1) := by decide +kernel
theorem dX6_best_61 : decode cX6_best 61 = .ok (.aload_n 0, 1) := by decide +kernel
theorem dX6_best_62 : decode cX6_best 62 = .ok (.bipush (-9), 2) := by decide +kernel
theorem dX6_best_64 : decode cX6_best 64 = .ok (.putfield 192, 3) := by decide +kernel
theorem dX6_best_67 : decode cX6_best 67 = .ok (.aload_n 0, 1) := by decide +kernel
theorem dX6_best_68 : decode cX6_best 68 = .ok (.iconst 0, 1) := by decide +kernel
theorem dX6_best_69 : decode cX6_best 69 = .ok (.iconst 0, 1) := by decide +kernel
theorem dX6_best_70 : decode cX6_best 70 = .ok (.invokevirtual 195, 3) := by decide +kernel
theorem dX6_best_73 : decode cX6_best 73 = .ok (.aload_n 0, 1) := by decide +kernel
theorem dX6_best_74 : decode cX6_best 74 = .ok (.invokevirtual 201, 3) := by decide +kernel
theorem dX6_best_77 : decode cX6_best 77 = .ok (.iload_n 1, 1) := by decide +kernel
theorem dX6_best_78 : decode cX6_best 78 = .ok (.ifCond .ge 10, 3) := by decide +kernel
theorem dX6_best_81 : decode cX6_best 81 = .ok (.aload_n 0, 1) := by decide +kernel
theorem dX6_best_82 : decode cX6_best 82 = .ok (.getfield 192, 3) := by decide +kernel
theorem dX6_best_85 : decode cX6_best 85 = .ok (.goto 24, 3) := by decide +kernel
theorem dX6_best_88 : decode cX6_best 88 = .ok (.iload_n 1, 1) := by decide +kernel
theorem dX6_best_89 : decode cX6_best 89 = .ok (.aload_n 0, 1) := by decide +kernel
theorem dX6_best_90 : decode cX6_best 90 = .ok (.getfield 13, 3) := by decide +kernel
theorem dX6_best_93 : decode cX6_best 93 = .ok (.iconst 1, 1) := by decide +kernel
theorem dX6_best_94 : decode cX6_best 94 = .ok (.iaload, 1) := by decide +kernel
theorem dX6_best_95 : decode cX6_best 95 = .ok (.if_icmp .ge 12, 3) := by decide +kernel
theorem dX6_best_98 : decode cX6_best 98 = .ok (.aload_n 0, 1) := by decide +kernel
theorem dX6_best_99 : decode cX6_best 99 = .ok (.getfield 40, 3) := by decide +kernel
theorem dX6_best_102 : decode cX6_best 102 = .ok (.iload_n 1, 1) := by decide +kernel
theorem dX6_best_103 : decode cX6_best 103 = .ok (.iaload, 1) := by decide +kernel
theorem dX6_best_104 : decode cX6_best 104 = .ok (.goto 5, 3) := by decide +kernel
theorem dX6_best_107 : decode cX6_best 107 = .ok (.bipush (-9), 2) := by decide +kernel
theorem dX6_best_109 : decode cX6_best 109 = .ok (.ireturn, 1) := by decide +kernel
theorem dX6_fewest_0 : decode cX6_fewest 0 = .ok (.iload_n 1, 1) := by decide +kernel
theorem dX6_fewest_1 : decode cX6_fewest 1 = .ok (.ifCond .ge 10, 3) := by decide +kernel
theorem dX6_fewest_4 : decode cX6_fewest 4 = .ok (.aload_n 0, 1) := by decide +kernel
theorem dX6_fewest_5 : decode cX6_fewest 5 = .ok (.bipush (-4), 2) := by decide +kernel
theorem dX6_fewest_7 : decode cX6_fewest 7 = .ok (.invokevirtual 50, 3) := by decide +kernel
theorem dX6_fewest_10 : decode cX6_fewest 10 = .ok (.ireturn, 1) := by decide +kernel
theorem dX6_fewest_11 : decode cX6_fewest 11 = .ok (.aload_n 0, 1) := by decide +kernel
theorem dX6_fewest_12 : decode cX6_fewest 12 = .ok (.getfield 13, 3) := by decide +kernel
theorem dX6_fewest_15 : decode cX6_fewest 15 = .ok (.iconst 2, 1) := by decide +kernel
theorem dX6_fewest_16 : decode cX6_fewest 16 = .ok (.iaload, 1) := by decide +kernel
theorem dX6_fewest_17 : decode cX6_fewest 17 = .ok (.istore_n 2, 1) := by decide +kernel
theorem dX6_fewest_18 : decode cX6_fewest 18 = .ok (.bipush (-9), 2) := by decide +kernel
theorem dX6_fewest_20 : decode cX6_fewest 20 = .ok (.istore_n 3, 1) := by decide +kernel
theorem dX6_fewest_21 : decode cX6_fewest 21 = .ok (.iconst 0, 1) := by decide +kernel
theorem dX6_fewest_22 : decode cX6_fewest 22 = .ok (.istore 4, 2) := by decide +kernel
theorem dX6_fewest_24 : decode cX6_fewest 24 = .ok (.iload 4, 2) := by decide +kernel
theorem dX6_fewest_26 : decode cX6_fewest 26 = .ok (.iconst 5, 1) := by decide +kernel
theorem dX6_fewest_27 : decode cX6_fewest 27 = .ok (.if_icmp .ge 37, 3) := by decide +kernel
theorem dX6_fewest_30 : decode cX6_fewest 30 = .ok (.iload_n 3, 1) := by decide +kernel
theorem dX6_fewest_31 : decode cX6_fewest 31 = .ok (.ifCond .ge 33, 3) := by decide +kernel
theorem dX6_fewest_34 : decode cX6_fewest 34 = .ok (.aload_n 0, 1) := by decide +kernel
theorem dX6_fewest_35 : decode cX6_fewest 35 = .ok (.getfield 13, 3) := by decide +kernel
theorem dX6_fewest_38 : decode cX6_fewest 38 = .ok (.iconst 2, 1) := by decide +kernel
theorem dX6_fewest_39 : decode cX6_fewest 39 = .ok (.iload 4, 2) := by decide +kernel
theorem dX6_fewest_41 : decode cX6_fewest 41 = .ok (.iastore, 1) := by decide +kernel
theorem dX6_fewest_42 : decode cX6_fewest 42 = .ok (.aload_n 0, 1) := by decide +kernel
theorem dX6_fewest_43 : decode cX6_fewest 43 = .ok (.invokevirtual 189, 3) := by decide +kernel
theorem dX6_fewest_46 : decode cX6_fewest 46 = .ok (.iload_n 1, 1) := by decide +kernel
theorem dX6_fewest_47 : decode cX6_fewest 47 = .ok (.if_icmp .gt 8, 3) := by decide +kernel
theorem dX6_fewest_50 : decode cX6_fewest 50 = .ok (.iload 4, 2) := by decide +kernel
theorem dX6_fewest_52 : decode cX6_fewest 52 = .ok (.goto 5, 3) := by decide +kernel
theorem dX6_fewest_55 : decode cX6_fewest 55 = .ok (.bipush (-9), 2) := by decide +kernel
theorem dX6_fewest_57 : decode cX6_fewest 57 = .ok (.istore_n 3, 1) := by decide +kernel
theorem dX6_fewest_58 : decode cX6_fewest 58 = .ok (.iinc 4 1, 3) := by decide +kernel
theorem dX6_fewest_61 : decode cX6_fewest 61 = .ok (.goto (-37), 3) := by decide +kernel
theorem dX6_fewest_64 : decode cX6_fewest 64 = .ok (.aload_n 0, 1) := by decide +kernel
theorem dX6_fewest_65 : decode cX6_fewest 65 = .ok (.getfield 13, 3) := by decide +kernel
theorem dX6_fewest_68 : decode cX6_fewest 68 = .ok (.iconst 2, 1) := by decide +kernel
theorem dX6_fewest_69 : decode cX6_fewest 69 = .ok (.iload_n 2, 1) := by decide +kernel
theorem dX6_fewest_70 : decode cX6_fewest 70 = .ok (.iastore, 1) := by decide +kernel
theorem dX6_fewest_71 : decode cX6_fewest 71 = .ok (.iload_n 3, 1) := by decide +kernel
theorem dX6_fewest_72 : decode cX6_fewest 72 = .ok (.ireturn, 1) := by decide +kernel
theorem dX6_which_0 : decode cX6_which 0 = .ok (.bipush (-9), 2) := by decide +kernel
theorem dX6_which_2 : decode cX6_which 2 = .ok (.istore_n 1, 1) := by decide +kernel
theorem dX6_which_3 : decode cX6_which 3 = .ok (.aload_n 0, 1) := by decide +kernel
theorem dX6_which_4 : decode cX6_which 4 = .ok (.invokevirtual 189, 3) := by decide +kernel
theorem dX6_which_7 : decode cX6_which 7 = .ok (.istore_n 2, 1) := by decide +kernel
theorem dX6_which_8 : decode cX6_which 8 = .ok (.iconst 0, 1) := by decide +kernel
theorem dX6_which_9 : decode cX6_which 9 = .ok (.istore_n 3, 1) := by decide +kernel
theorem dX6_which_10 : decode cX6_which 10 = .ok (.iload_n 3, 1) := by decide +kernel
theorem dX6_which_11 : decode cX6_which 11 = .ok (.aload_n 0, 1) := by decide +kernel
theorem dX6_which_12 : decode cX6_which 12 = .ok (.getfield 13, 3) := by decide +kernel
theorem dX6_which_15 : decode cX6_which 15 = .ok (.iconst 0, 1) := by decide +kernel
theorem dX6_which_16 : decode cX6_which 16 = .ok (.iaload, 1) := by decide +kernel
theorem dX6_which_17 : decode cX6_which 17 = .ok (.if_icmp .ge 69, 3) := by decide +kernel
theorem dX6_which_20 : decode cX6_which 20 = .ok (.bipush 13, 2) := by decide +kernel
theorem dX6_which_22 : decode cX6_which 22 = .ok (.iconst 2, 1) := by decide +kernel
theorem dX6_which_23 : decode cX6_which 23 = .ok (.iload_n 3, 1) := by decide +kernel
theorem dX6_which_24 : decode cX6_which 24 = .ok (.imul, 1) := by decide +kernel
theorem dX6_which_25 : decode cX6_which 25 = .ok (.iadd, 1) := by decide +kernel
theorem dX6_which_26 : decode cX6_which 26 = .ok (.iconst 1, 1) := by decide +kernel
theorem dX6_which_27 : decode cX6_which 27 = .ok (.iadd, 1) := by decide +kernel
theorem dX6_which_28 : decode cX6_which 28 = .ok (.istore 4, 2) := by decide +kernel
theorem dX6_which_30 : decode cX6_which 30 = .ok (.aload_n 0, 1) := by decide +kernel
theorem dX6_which_31 : decode cX6_which 31 = .ok (.getfield 13, 3) := by decide +kernel
theorem dX6_which_34 : decode cX6_which 34 = .ok (.iload 4, 2) := by decide +kernel
theorem dX6_which_36 : decode cX6_which 36 = .ok (.iaload, 1) := by decide +kernel
theorem dX6_which_37 : decode cX6_which 37 = .ok (.iconst 1, 1) := by decide +kernel
theorem dX6_which_38 : decode cX6_which 38 = .ok (.if_icmp .ne 6, 3) := by decide +kernel
theorem dX6_which_41 : decode cX6_which 41 = .ok (.goto 39, 3) := by decide +kernel
theorem dX6_which_44 : decode cX6_which 44 = .ok (.aload_n 0, 1) := by decide +kernel
theorem dX6_which_45 : decode cX6_which 45 = .ok (.getfield 13, 3) := by decide +kernel
theorem dX6_which_48 : decode cX6_which 48 = .ok (.iload 4, 2) := by decide +kernel
theorem dX6_which_50 : decode cX6_which 50 = .ok (.iconst 1, 1) := by decide +kernel
theorem dX6_which_51 : decode cX6_which 51 = .ok (.iastore, 1) := by decide +kernel
theorem dX6_which_52 : decode cX6_which 52 = .ok (.aload_n 0, 1) := by decide +kernel
theorem dX6_which_53 : decode cX6_which 53 = .ok (.invokevirtual 189, 3) := by decide +kernel
theorem dX6_which_56 : decode cX6_which 56 = .ok (.istore 5, 2) := by decide +kernel
theorem dX6_which_58 : decode cX6_which 58 = .ok (.aload_n 0, 1) := by decide +kernel
theorem dX6_which_59 : decode cX6_which 59 = .ok (.getfield 13, 3) := by decide +kernel
theorem dX6_which_62 : decode cX6_which 62 = .ok (.iload 4, 2) := by decide +kernel
theorem dX6_which_64 : decode cX6_which 64 = .ok (.iconst 0, 1) := by decide +kernel
theorem dX6_which_65 : decode cX6_which 65 = .ok (.iastore, 1) := by decide +kernel
theorem dX6_which_66 : decode cX6_which 66 = .ok (.iload 5, 2) := by decide +kernel
theorem dX6_which_68 : decode cX6_which 68 = .ok (.iload_n 2, 1) := by decide +kernel
theorem dX6_which_69 : decode cX6_which 69 = .ok (.if_icmp .lt 6, 3) := by decide +kernel
theorem dX6_which_72 : decode cX6_which 72 = .ok (.goto 8, 3) := by decide +kernel
theorem dX6_which_75 : decode cX6_which 75 = .ok (.iload_n 3, 1) := by decide +kernel
theorem dX6_which_76 : decode cX6_which 76 = .ok (.istore_n 1, 1) := by decide +kernel
theorem dX6_which_77 : decode cX6_which 77 = .ok (.iload 5, 2) := by decide +kernel
theorem dX6_which_79 : decode cX6_which 79 = .ok (.istore_n 2, 1) := by decide +kernel
theorem dX6_which_80 : decode cX6_which 80 = .ok (.iinc 3 1, 3) := by decide +kernel
theorem dX6_which_83 : decode cX6_which 83 = .ok (.goto (-73), 3) := by decide +kernel
theorem dX6_which_86 : decode cX6_which 86 = .ok (.iload_n 1, 1) := by decide +kernel
theorem dX6_which_87 : decode cX6_which 87 = .ok (.ireturn, 1) := by decide +kernel
theorem dX6_edge_0 : decode cX6_edge 0 = .ok (.iload_n 1, 1) := by decide +kernel
theorem dX6_edge_1 : decode cX6_edge 1 = .ok (.iconst 3, 1) := by decide +kernel
theorem dX6_edge_2 : decode cX6_edge 2 = .ok (.invokestatic 46, 3) := by decide +kernel
theorem dX6_edge_5 : decode cX6_edge 5 = .ok (.ifCond .ne 10, 3) := by decide +kernel
theorem dX6_edge_8 : decode cX6_edge 8 = .ok (.aload_n 0, 1) := by decide +kernel
theorem dX6_edge_9 : decode cX6_edge 9 = .ok (.bipush (-2), 2) := by decide +kernel
theorem dX6_edge_11 : decode cX6_edge 11 = .ok (.invokevirtual 50, 3) := by decide +kernel
theorem dX6_edge_14 : decode cX6_edge 14 = .ok (.ireturn, 1) := by decide +kernel
theorem dX6_edge_15 : decode cX6_edge 15 = .ok (.sipush 999, 3) := by decide +kernel
theorem dX6_edge_18 : decode cX6_edge 18 = .ok (.istore_n 2, 1) := by decide +kernel
theorem dX6_edge_19 : decode cX6_edge 19 = .ok (.iload_n 2, 1) := by decide +kernel
theorem dX6_edge_20 : decode cX6_edge 20 = .ok (.ifCond .le 20, 3) := by decide +kernel
theorem dX6_edge_23 : decode cX6_edge 23 = .ok (.aload_n 0, 1) := by decide +kernel
theorem dX6_edge_24 : decode cX6_edge 24 = .ok (.iload_n 2, 1) := by decide +kernel
theorem dX6_edge_25 : decode cX6_edge 25 = .ok (.invokevirtual 109, 3) := by decide +kernel
theorem dX6_edge_28 : decode cX6_edge 28 = .ok (.iload_n 1, 1) := by decide +kernel
theorem dX6_edge_29 : decode cX6_edge 29 = .ok (.if_icmp .ne 5, 3) := by decide +kernel
theorem dX6_edge_32 : decode cX6_edge 32 = .ok (.iload_n 2, 1) := by decide +kernel
theorem dX6_edge_33 : decode cX6_edge 33 = .ok (.ireturn, 1) := by decide +kernel
theorem dX6_edge_34 : decode cX6_edge 34 = .ok (.iinc 2 (-1), 3) := by decide +kernel
theorem dX6_edge_37 : decode cX6_edge 37 = .ok (.goto (-18), 3) := by decide +kernel
theorem dX6_edge_40 : decode cX6_edge 40 = .ok (.bipush (-9), 2) := by decide +kernel
theorem dX6_edge_42 : decode cX6_edge 42 = .ok (.ireturn, 1) := by decide +kernel
theorem dX6_chance_0 : decode cX6_chance 0 = .ok (.iload_n 1, 1) := by decide +kernel
theorem dX6_chance_1 : decode cX6_chance 1 = .ok (.iconst 0, 1) := by decide +kernel
theorem dX6_chance_2 : decode cX6_chance 2 = .ok (.bipush 100, 2) := by decide +kernel
theorem dX6_chance_4 : decode cX6_chance 4 = .ok (.invokestatic 99, 3) := by decide +kernel
theorem dX6_chance_7 : decode cX6_chance 7 = .ok (.istore_n 2, 1) := by decide +kernel
theorem dX6_chance_8 : decode cX6_chance 8 = .ok (.iload_n 2, 1) := by decide +kernel
theorem dX6_chance_9 : decode cX6_chance 9 = .ok (.ifCond .eq 9, 3) := by decide +kernel
theorem dX6_chance_12 : decode cX6_chance 12 = .ok (.aload_n 0, 1) := by decide +kernel
theorem dX6_chance_13 : decode cX6_chance 13 = .ok (.iload_n 2, 1) := by decide +kernel
theorem dX6_chance_14 : decode cX6_chance 14 = .ok (.invokevirtual 50, 3) := by decide +kernel
theorem dX6_chance_17 : decode cX6_chance 17 = .ok (.ireturn, 1) := by decide +kernel
theorem dX6_chance_18 : decode cX6_chance 18 = .ok (.aload_n 0, 1) := by decide +kernel
theorem dX6_chance_19 : decode cX6_chance 19 = .ok (.getfield 13, 3) := by decide +kernel
theorem dX6_chance_22 : decode cX6_chance 22 = .ok (.bipush 10, 2) := by decide +kernel
theorem dX6_chance_24 : decode cX6_chance 24 = .ok (.iaload, 1) := by decide +kernel
theorem dX6_chance_25 : decode cX6_chance 25 = .ok (.istore_n 3, 1) := by decide +kernel
theorem dX6_chance_26 : decode cX6_chance 26 = .ok (.aload_n 0, 1) := by decide +kernel
theorem dX6_chance_27 : decode cX6_chance 27 = .ok (.getfield 13, 3) := by decide +kernel
theorem dX6_chance_30 : decode cX6_chance 30 = .ok (.bipush 10, 2) := by decide +kernel
theorem dX6_chance_32 : decode cX6_chance 32 = .ok (.iconst 1, 1) := by decide +kernel
theorem dX6_chance_33 : decode cX6_chance 33 = .ok (.iastore, 1) := by decide +kernel
theorem dX6_chance_34 : decode cX6_chance 34 = .ok (.aload_n 0, 1) := by decide +kernel
theorem dX6_chance_35 : decode cX6_chance 35 = .ok (.invokevirtual 189, 3) := by decide +kernel
theorem dX6_chance_38 : decode cX6_chance 38 = .ok (.istore 4, 2) := by decide +kernel
theorem dX6_chance_40 : decode cX6_chance 40 = .ok (.aload_n 0, 1) := by decide +kernel
theorem dX6_chance_41 : decode cX6_chance 41 = .ok (.getfield 13, 3) := by decide +kernel
theorem dX6_chance_44 : decode cX6_chance 44 = .ok (.bipush 10, 2) := by decide +kernel
theorem dX6_chance_46 : decode cX6_chance 46 = .ok (.iconst 0, 1) := by decide +kernel
theorem dX6_chance_47 : decode cX6_chance 47 = .ok (.iastore, 1) := by decide +kernel
theorem dX6_chance_48 : decode cX6_chance 48 = .ok (.aload_n 0, 1) := by decide +kernel
theorem dX6_chance_49 : decode cX6_chance 49 = .ok (.invokevirtual 189, 3) := by decide +kernel
theorem dX6_chance_52 : decode cX6_chance 52 = .ok (.istore 5, 2) := by decide +kernel
theorem dX6_chance_54 : decode cX6_chance 54 = .ok (.aload_n 0, 1) := by decide +kernel
theorem dX6_chance_55 : decode cX6_chance 55 = .ok (.getfield 13, 3) := by decide +kernel
theorem dX6_chance_58 : decode cX6_chance 58 = .ok (.bipush 10, 2) := by decide +kernel
theorem dX6_chance_60 : decode cX6_chance 60 = .ok (.iload_n 3, 1) := by decide +kernel
theorem dX6_chance_61 : decode cX6_chance 61 = .ok (.iastore, 1) := by decide +kernel
theorem dX6_chance_62 : decode cX6_chance 62 = .ok (.iload_n 1, 1) := by decide +kernel
theorem dX6_chance_63 : decode cX6_chance 63 = .ok (.iload 4, 2) := by decide +kernel
theorem dX6_chance_65 : decode cX6_chance 65 = .ok (.imul, 1) := by decide +kernel
theorem dX6_chance_66 : decode cX6_chance 66 = .ok (.bipush 100, 2) := by decide +kernel
theorem dX6_chance_68 : decode cX6_chance 68 = .ok (.iload_n 1, 1) := by decide +kernel
theorem dX6_chance_69 : decode cX6_chance 69 = .ok (.isub, 1) := by decide +kernel
theorem dX6_chance_70 : decode cX6_chance 70 = .ok (.iload 5, 2) := by decide +kernel
theorem dX6_chance_72 : decode cX6_chance 72 = .ok (.imul, 1) := by decide +kernel
theorem dX6_chance_73 : decode cX6_chance 73 = .ok (.iadd, 1) := by decide +kernel
theorem dX6_chance_74 : decode cX6_chance 74 = .ok (.ireturn, 1) := by decide +kernel
theorem dX6_weightsOf_0 : decode cX6_weightsOf 0 = .ok (.aload_n 0, 1) := by decide +kernel
theorem dX6_weightsOf_1 : decode cX6_weightsOf 1 = .ok (.invokevirtual 186, 3) := by decide +kernel
theorem dX6_weightsOf_4 : decode cX6_weightsOf 4 = .ok (.iconst 0, 1) := by decide +kernel
theorem dX6_weightsOf_5 : decode cX6_weightsOf 5 = .ok (.istore_n 1, 1) := by decide +kernel
theorem dX6_weightsOf_6 : decode cX6_weightsOf 6 = .ok (.iconst 0, 1) := by decide +kernel
theorem dX6_weightsOf_7 : decode cX6_weightsOf 7 = .ok (.istore_n 2, 1) := by decide +kernel
theorem dX6_weightsOf_8 : decode cX6_weightsOf 8 = .ok (.iload_n 2, 1) := by decide +kernel
theorem dX6_weightsOf_9 : decode cX6_weightsOf 9 = .ok (.aload_n 0, 1) := by decide +kernel
theorem dX6_weightsOf_10 : decode cX6_weightsOf 10 = .ok (.getfield 13, 3) := by decide +kernel
theorem dX6_weightsOf_13 : decode cX6_weightsOf 13 = .ok (.iconst 1, 1) := by decide +kernel
theorem dX6_weightsOf_14 : decode cX6_weightsOf 14 = .ok (.iaload, 1) := by decide +kernel
theorem dX6_weightsOf_15 : decode cX6_weightsOf 15 = .ok (.if_icmp .ge 30, 3) := by decide +kernel
theorem dX6_weightsOf_18 : decode cX6_weightsOf 18 = .ok (.iload_n 1, 1) := by decide +kernel
theorem dX6_weightsOf_19 : decode cX6_weightsOf 19 = .ok (.aload_n 0, 1) := by decide +kernel
theorem dX6_weightsOf_20 : decode cX6_weightsOf 20 = .ok (.getfield 34, 3) := by decide +kernel
theorem dX6_weightsOf_23 : decode cX6_weightsOf 23 = .ok (.iload_n 2, 1) := by decide +kernel
theorem dX6_weightsOf_24 : decode cX6_weightsOf 24 = .ok (.iaload, 1) := by decide +kernel
theorem dX6_weightsOf_25 : decode cX6_weightsOf 25 = .ok (.ifCond .lt 11, 3) := by decide +kernel
theorem dX6_weightsOf_28 : decode cX6_weightsOf 28 = .ok (.aload_n 0, 1) := by decide +kernel
theorem dX6_weightsOf_29 : decode cX6_weightsOf 29 = .ok (.iload_n 2, 1) := by decide +kernel
theorem dX6_weightsOf_30 : decode cX6_weightsOf 30 = .ok (.invokevirtual 106, 3) := by decide +kernel
theorem dX6_weightsOf_33 : decode cX6_weightsOf 33 = .ok (.goto 4, 3) := by decide +kernel
theorem dX6_weightsOf_36 : decode cX6_weightsOf 36 = .ok (.iconst 0, 1) := by decide +kernel
theorem dX6_weightsOf_37 : decode cX6_weightsOf 37 = .ok (.iadd, 1) := by decide +kernel
theorem dX6_weightsOf_38 : decode cX6_weightsOf 38 = .ok (.istore_n 1, 1) := by decide +kernel
theorem dX6_weightsOf_39 : decode cX6_weightsOf 39 = .ok (.iinc 2 1, 3) := by decide +kernel
theorem dX6_weightsOf_42 : decode cX6_weightsOf 42 = .ok (.goto (-34), 3) := by decide +kernel
theorem dX6_weightsOf_45 : decode cX6_weightsOf 45 = .ok (.iload_n 1, 1) := by decide +kernel
theorem dX6_weightsOf_46 : decode cX6_weightsOf 46 = .ok (.ireturn, 1) := by decide +kernel
theorem dX6_heaviest_0 : decode cX6_heaviest 0 = .ok (.aload_n 0, 1) := by decide +kernel
theorem dX6_heaviest_1 : decode cX6_heaviest 1 = .ok (.invokevirtual 204, 3) := by decide +kernel
theorem dX6_heaviest_4 : decode cX6_heaviest 4 = .ok (.ireturn, 1) := by decide +kernel
theorem dX6_yard_0 : decode cX6_yard 0 = .ok (.aload_n 0, 1) := by decide +kernel
theorem dX6_yard_1 : decode cX6_yard 1 = .ok (.getfield 13, 3) := by decide +kernel
theorem dX6_yard_4 : decode cX6_yard 4 = .ok (.iconst 1, 1) := by decide +kernel
theorem dX6_yard_5 : decode cX6_yard 5 = .ok (.iaload, 1) := by decide +kernel
theorem dX6_yard_6 : decode cX6_yard 6 = .ok (.ifCond .ne 6, 3) := by decide +kernel
theorem dX6_yard_9 : decode cX6_yard 9 = .ok (.bipush (-9), 2) := by decide +kernel
theorem dX6_yard_11 : decode cX6_yard 11 = .ok (.ireturn, 1) := by decide +kernel
theorem dX6_yard_12 : decode cX6_yard 12 = .ok (.aload_n 0, 1) := by decide +kernel
theorem dX6_yard_13 : decode cX6_yard 13 = .ok (.invokevirtual 198, 3) := by decide +kernel
theorem dX6_yard_16 : decode cX6_yard 16 = .ok (.bipush (-9), 2) := by decide +kernel
theorem dX6_yard_18 : decode cX6_yard 18 = .ok (.istore_n 1, 1) := by decide +kernel
theorem dX6_yard_19 : decode cX6_yard 19 = .ok (.iconst 0, 1) := by decide +kernel
theorem dX6_yard_20 : decode cX6_yard 20 = .ok (.istore_n 2, 1) := by decide +kernel
theorem dX6_yard_21 : decode cX6_yard 21 = .ok (.bipush 50, 2) := by decide +kernel
theorem dX6_yard_23 : decode cX6_yard 23 = .ok (.istore_n 3, 1) := by decide +kernel
theorem dX6_yard_24 : decode cX6_yard 24 = .ok (.iload_n 3, 1) := by decide +kernel
theorem dX6_yard_25 : decode cX6_yard 25 = .ok (.sipush 1000, 3) := by decide +kernel
theorem dX6_yard_28 : decode cX6_yard 28 = .ok (.if_icmp .ge 68, 3) := by decide +kernel
theorem dX6_yard_31 : decode cX6_yard 31 = .ok (.iconst 0, 1) := by decide +kernel
theorem dX6_yard_32 : decode cX6_yard 32 = .ok (.istore 4, 2) := by decide +kernel
theorem dX6_yard_34 : decode cX6_yard 34 = .ok (.iload 4, 2) := by decide +kernel
theorem dX6_yard_36 : decode cX6_yard 36 = .ok (.aload_n 0, 1) := by decide +kernel
theorem dX6_yard_37 : decode cX6_yard 37 = .ok (.getfield 13, 3) := by decide +kernel
theorem dX6_yard_40 : decode cX6_yard 40 = .ok (.iconst 1, 1) := by decide +kernel
theorem dX6_yard_41 : decode cX6_yard 41 = .ok (.iaload, 1) := by decide +kernel
theorem dX6_yard_42 : decode cX6_yard 42 = .ok (.if_icmp .ge 24, 3) := by decide +kernel
theorem dX6_yard_45 : decode cX6_yard 45 = .ok (.aload_n 0, 1) := by decide +kernel
theorem dX6_yard_46 : decode cX6_yard 46 = .ok (.getfield 13, 3) := by decide +kernel
theorem dX6_yard_49 : decode cX6_yard 49 = .ok (.bipush 23, 2) := by decide +kernel
theorem dX6_yard_51 : decode cX6_yard 51 = .ok (.iconst 2, 1) := by decide +kernel
theorem dX6_yard_52 : decode cX6_yard 52 = .ok (.iload 4, 2) := by decide +kernel
theorem dX6_yard_54 : decode cX6_yard 54 = .ok (.imul, 1) := by decide +kernel
theorem dX6_yard_55 : decode cX6_yard 55 = .ok (.iadd, 1) := by decide +kernel
theorem dX6_yard_56 : decode cX6_yard 56 = .ok (.iconst 1, 1) := by decide +kernel
theorem dX6_yard_57 : decode cX6_yard 57 = .ok (.iadd, 1) := by decide +kernel
theorem dX6_yard_58 : decode cX6_yard 58 = .ok (.iload_n 3, 1) := by decide +kernel
theorem dX6_yard_59 : decode cX6_yard 59 = .ok (.iastore, 1) := by decide +kernel
theorem dX6_yard_60 : decode cX6_yard 60 = .ok (.iinc 4 1, 3) := by decide +kernel
theorem dX6_yard_63 : decode cX6_yard 63 = .ok (.goto (-29), 3) := by decide +kernel
theorem dX6_yard_66 : decode cX6_yard 66 = .ok (.aload_n 0, 1) := by decide +kernel
theorem dX6_yard_67 : decode cX6_yard 67 = .ok (.invokevirtual 204, 3) := by decide +kernel
theorem dX6_yard_70 : decode cX6_yard 70 = .ok (.istore 4, 2) := by decide +kernel
theorem dX6_yard_72 : decode cX6_yard 72 = .ok (.iload_n 1, 1) := by decide +kernel
theorem dX6_yard_73 : decode cX6_yard 73 = .ok (.ifCond .lt 12, 3) := by decide +kernel
theorem dX6_yard_76 : decode cX6_yard 76 = .ok (.iload 4, 2) := by decide +kernel
theorem dX6_yard_78 : decode cX6_yard 78 = .ok (.iload_n 2, 1) := by decide +kernel
theorem dX6_yard_79 : decode cX6_yard 79 = .ok (.if_icmp .gt 6, 3) := by decide +kernel
theorem dX6_yard_82 : decode cX6_yard 82 = .ok (.goto 8, 3) := by decide +kernel
theorem dX6_yard_85 : decode cX6_yard 85 = .ok (.iload_n 3, 1) := by decide +kernel
theorem dX6_yard_86 : decode cX6_yard 86 = .ok (.istore_n 1, 1) := by decide +kernel
theorem dX6_yard_87 : decode cX6_yard 87 = .ok (.iload 4, 2) := by decide +kernel
theorem dX6_yard_89 : decode cX6_yard 89 = .ok (.istore_n 2, 1) := by decide +kernel
theorem dX6_yard_90 : decode cX6_yard 90 = .ok (.iinc 3 50, 3) := by decide +kernel
theorem dX6_yard_93 : decode cX6_yard 93 = .ok (.goto (-69), 3) := by decide +kernel
theorem dX6_yard_96 : decode cX6_yard 96 = .ok (.aload_n 0, 1) := by decide +kernel
theorem dX6_yard_97 : decode cX6_yard 97 = .ok (.invokevirtual 201, 3) := by decide +kernel
theorem dX6_yard_100 : decode cX6_yard 100 = .ok (.iload_n 1, 1) := by decide +kernel
theorem dX6_yard_101 : decode cX6_yard 101 = .ok (.ireturn, 1) := by decide +kernel
theorem dX6_row_0 : decode cX6_row 0 = .ok (.iload_n 1, 1) := by decide +kernel
theorem dX6_row_1 : decode cX6_row 1 = .ok (.iconst 0, 1) := by decide +kernel
theorem dX6_row_2 : decode cX6_row 2 = .ok (.bipush 9, 2) := by decide +kernel
theorem dX6_row_4 : decode cX6_row 4 = .ok (.invokestatic 99, 3) := by decide +kernel
theorem dX6_row_7 : decode cX6_row 7 = .ok (.istore_n 2, 1) := by decide +kernel
theorem dX6_row_8 : decode cX6_row 8 = .ok (.iload_n 2, 1) := by decide +kernel
theorem dX6_row_9 : decode cX6_row 9 = .ok (.ifCond .ne 15, 3) := by decide +kernel
theorem dX6_row_12 : decode cX6_row 12 = .ok (.aload_n 0, 1) := by decide +kernel
theorem dX6_row_13 : decode cX6_row 13 = .ok (.getfield 207, 3) := by decide +kernel
theorem dX6_row_16 : decode cX6_row 16 = .ok (.bipush 16, 2) := by decide +kernel
theorem dX6_row_18 : decode cX6_row 18 = .ok (.if_icmp .ne 6, 3) := by decide +kernel
theorem dX6_row_21 : decode cX6_row 21 = .ok (.bipush (-6), 2) := by decide +kernel
theorem dX6_row_23 : decode cX6_row 23 = .ok (.istore_n 2, 1) := by decide +kernel
theorem dX6_row_24 : decode cX6_row 24 = .ok (.iload_n 2, 1) := by decide +kernel
theorem dX6_row_25 : decode cX6_row 25 = .ok (.ifCond .eq 9, 3) := by decide +kernel
theorem dX6_row_28 : decode cX6_row 28 = .ok (.aload_n 0, 1) := by decide +kernel
theorem dX6_row_29 : decode cX6_row 29 = .ok (.iload_n 2, 1) := by decide +kernel
theorem dX6_row_30 : decode cX6_row 30 = .ok (.invokevirtual 50, 3) := by decide +kernel
theorem dX6_row_33 : decode cX6_row 33 = .ok (.ireturn, 1) := by decide +kernel
theorem dX6_row_34 : decode cX6_row 34 = .ok (.aload_n 0, 1) := by decide +kernel
theorem dX6_row_35 : decode cX6_row 35 = .ok (.getfield 43, 3) := by decide +kernel
theorem dX6_row_38 : decode cX6_row 38 = .ok (.aload_n 0, 1) := by decide +kernel
theorem dX6_row_39 : decode cX6_row 39 = .ok (.getfield 207, 3) := by decide +kernel
theorem dX6_row_42 : decode cX6_row 42 = .ok (.iload_n 1, 1) := by decide +kernel
theorem dX6_row_43 : decode cX6_row 43 = .ok (.iastore, 1) := by decide +kernel
theorem dX6_row_44 : decode cX6_row 44 = .ok (.aload_n 0, 1) := by decide +kernel
theorem dX6_row_45 : decode cX6_row 45 = .ok (.dup, 1) := by decide +kernel
theorem dX6_row_46 : decode cX6_row 46 = .ok (.getfield 207, 3) := by decide +kernel
theorem dX6_row_49 : decode cX6_row 49 = .ok (.iconst 1, 1) := by decide +kernel
theorem dX6_row_50 : decode cX6_row 50 = .ok (.iadd, 1) := by decide +kernel
theorem dX6_row_51 : decode cX6_row 51 = .ok (.putfield 207, 3) := by decide +kernel
theorem dX6_row_54 : decode cX6_row 54 = .ok (.aload_n 0, 1) := by decide +kernel
theorem dX6_row_55 : decode cX6_row 55 = .ok (.getfield 207, 3) := by decide +kernel
theorem dX6_row_58 : decode cX6_row 58 = .ok (.ireturn, 1) := by decide +kernel
theorem dX6_canFrom_0 : decode cX6_canFrom 0 = .ok (.iload_n 2, 1) := by decide +kernel
theorem dX6_canFrom_1 : decode cX6_canFrom 1 = .ok (.bipush 9, 2) := by decide +kernel
theorem dX6_canFrom_3 : decode cX6_canFrom 3 = .ok (.if_icmp .eq 32, 3) := by decide +kernel
theorem dX6_canFrom_6 : decode cX6_canFrom 6 = .ok (.aload_n 0, 1) := by decide +kernel
theorem dX6_canFrom_7 : decode cX6_canFrom 7 = .ok (.iload_n 2, 1) := by decide +kernel
theorem dX6_canFrom_8 : decode cX6_canFrom 8 = .ok (.invokevirtual 90, 3) := by decide +kernel
theorem dX6_canFrom_11 : decode cX6_canFrom 11 = .ok (.ifCond .eq 21, 3) := by decide +kernel
theorem dX6_canFrom_14 : decode cX6_canFrom 14 = .ok (.aload_n 0, 1) := by decide +kernel
theorem dX6_canFrom_15 : decode cX6_canFrom 15 = .ok (.getfield 34, 3) := by decide +kernel
theorem dX6_canFrom_18 : decode cX6_canFrom 18 = .ok (.iload_n 2, 1) := by decide +kernel
theorem dX6_canFrom_19 : decode cX6_canFrom 19 = .ok (.iaload, 1) := by decide +kernel
theorem dX6_canFrom_20 : decode cX6_canFrom 20 = .ok (.ifCond .ge 12, 3) := by decide +kernel
theorem dX6_canFrom_23 : decode cX6_canFrom 23 = .ok (.aload_n 0, 1) := by decide +kernel
theorem dX6_canFrom_24 : decode cX6_canFrom 24 = .ok (.iload_n 2, 1) := by decide +kernel
theorem dX6_canFrom_25 : decode cX6_canFrom 25 = .ok (.invokevirtual 112, 3) := by decide +kernel
theorem dX6_canFrom_28 : decode cX6_canFrom 28 = .ok (.iconst 3, 1) := by decide +kernel
theorem dX6_canFrom_29 : decode cX6_canFrom 29 = .ok (.if_icmp .ne 6, 3) := by decide +kernel
theorem dX6_canFrom_32 : decode cX6_canFrom 32 = .ok (.bipush (-9), 2) := by decide +kernel
theorem dX6_canFrom_34 : decode cX6_canFrom 34 = .ok (.ireturn, 1) := by decide +kernel
theorem dX6_canFrom_35 : decode cX6_canFrom 35 = .ok (.iload_n 1, 1) := by decide +kernel
theorem dX6_canFrom_36 : decode cX6_canFrom 36 = .ok (.istore_n 3, 1) := by decide +kernel
theorem dX6_canFrom_37 : decode cX6_canFrom 37 = .ok (.iload_n 3, 1) := by decide +kernel
theorem dX6_canFrom_38 : decode cX6_canFrom 38 = .ok (.sipush 9999, 3) := by decide +kernel
theorem dX6_canFrom_41 : decode cX6_canFrom 41 = .ok (.if_icmp .gt 66, 3) := by decide +kernel
theorem dX6_canFrom_44 : decode cX6_canFrom 44 = .ok (.aload_n 0, 1) := by decide +kernel
theorem dX6_canFrom_45 : decode cX6_canFrom 45 = .ok (.iload_n 3, 1) := by decide +kernel
theorem dX6_canFrom_46 : decode cX6_canFrom 46 = .ok (.invokevirtual 154, 3) := by decide +kernel
theorem dX6_canFrom_49 : decode cX6_canFrom 49 = .ok (.iload_n 2, 1) := by decide +kernel
theorem dX6_canFrom_50 : decode cX6_canFrom 50 = .ok (.bipush 9, 2) := by decide +kernel
theorem dX6_canFrom_52 : decode cX6_canFrom 52 = .ok (.if_icmp .ne 21, 3) := by decide +kernel
theorem dX6_canFrom_55 : decode cX6_canFrom 55 = .ok (.aload_n 0, 1) := by decide +kernel
theorem dX6_canFrom_56 : decode cX6_canFrom 56 = .ok (.getfield 124, 3) := by decide +kernel
theorem dX6_canFrom_59 : decode cX6_canFrom 59 = .ok (.ifCond .le 42, 3) := by decide +kernel
theorem dX6_canFrom_62 : decode cX6_canFrom 62 = .ok (.aload_n 0, 1) := by decide +kernel
theorem dX6_canFrom_63 : decode cX6_canFrom 63 = .ok (.iload_n 3, 1) := by decide +kernel
theorem dX6_canFrom_64 : decode cX6_canFrom 64 = .ok (.invokevirtual 161, 3) := by decide +kernel
theorem dX6_canFrom_67 : decode cX6_canFrom 67 = .ok (.ifCond .eq 34, 3) := by decide +kernel
theorem dX6_canFrom_70 : decode cX6_canFrom 70 = .ok (.goto 29, 3) := by decide +kernel
theorem dX6_canFrom_73 : decode cX6_canFrom 73 = .ok (.aload_n 0, 1) := by decide +kernel
theorem dX6_canFrom_74 : decode cX6_canFrom 74 = .ok (.iload_n 2, 1) := by decide +kernel
theorem dX6_canFrom_75 : decode cX6_canFrom 75 = .ok (.invokevirtual 148, 3) := by decide +kernel
theorem dX6_canFrom_78 : decode cX6_canFrom 78 = .ok (.iload_n 3, 1) := by decide +kernel
theorem dX6_canFrom_79 : decode cX6_canFrom 79 = .ok (.if_icmp .gt 22, 3) := by decide +kernel
theorem dX6_canFrom_82 : decode cX6_canFrom 82 = .ok (.aload_n 0, 1) := by decide +kernel
theorem dX6_canFrom_83 : decode cX6_canFrom 83 = .ok (.iload_n 2, 1) := by decide +kernel
theorem dX6_canFrom_84 : decode cX6_canFrom 84 = .ok (.invokevirtual 167, 3) := by decide +kernel
theorem dX6_canFrom_87 : decode cX6_canFrom 87 = .ok (.ifCond .eq 14, 3) := by decide +kernel
theorem dX6_canFrom_90 : decode cX6_canFrom 90 = .ok (.aload_n 0, 1) := by decide +kernel
theorem dX6_canFrom_91 : decode cX6_canFrom 91 = .ok (.iload_n 3, 1) := by decide +kernel
theorem dX6_canFrom_92 : decode cX6_canFrom 92 = .ok (.iload_n 2, 1) := by decide +kernel
theorem dX6_canFrom_93 : decode cX6_canFrom 93 = .ok (.invokevirtual 170, 3) := by decide +kernel
theorem dX6_canFrom_96 : decode cX6_canFrom 96 = .ok (.ifCond .eq 5, 3) := by decide +kernel
theorem dX6_canFrom_99 : decode cX6_canFrom 99 = .ok (.iload_n 3, 1) := by decide +kernel
theorem dX6_canFrom_100 : decode cX6_canFrom 100 = .ok (.ireturn, 1) := by decide +kernel
theorem dX6_canFrom_101 : decode cX6_canFrom 101 = .ok (.iinc 3 1, 3) := by decide +kernel
theorem dX6_canFrom_104 : decode cX6_canFrom 104 = .ok (.goto (-67), 3) := by decide +kernel
theorem dX6_canFrom_107 : decode cX6_canFrom 107 = .ok (.bipush (-9), 2) := by decide +kernel
theorem dX6_canFrom_109 : decode cX6_canFrom 109 = .ok (.ireturn, 1) := by decide +kernel
theorem dX6_judge_0 : decode cX6_judge 0 = .ok (.iload_n 1, 1) := by decide +kernel
theorem dX6_judge_1 : decode cX6_judge 1 = .ok (.iconst 2, 1) := by decide +kernel
theorem dX6_judge_2 : decode cX6_judge 2 = .ok (.invokestatic 46, 3) := by decide +kernel
theorem dX6_judge_5 : decode cX6_judge 5 = .ok (.ifCond .ne 10, 3) := by decide +kernel
theorem dX6_judge_8 : decode cX6_judge 8 = .ok (.aload_n 0, 1) := by decide +kernel
theorem dX6_judge_9 : decode cX6_judge 9 = .ok (.bipush (-2), 2) := by decide +kernel
theorem dX6_judge_11 : decode cX6_judge 11 = .ok (.invokevirtual 50, 3) := by decide +kernel
theorem dX6_judge_14 : decode cX6_judge 14 = .ok (.ireturn, 1) := by decide +kernel
theorem dX6_judge_15 : decode cX6_judge 15 = .ok (.aload_n 0, 1) := by decide +kernel
theorem dX6_judge_16 : decode cX6_judge 16 = .ok (.getfield 207, 3) := by decide +kernel
theorem dX6_judge_19 : decode cX6_judge 19 = .ok (.istore_n 2, 1) := by decide +kernel
theorem dX6_judge_20 : decode cX6_judge 20 = .ok (.aload_n 0, 1) := by decide +kernel
theorem dX6_judge_21 : decode cX6_judge 21 = .ok (.iconst 0, 1) := by decide +kernel
theorem dX6_judge_22 : decode cX6_judge 22 = .ok (.putfield 207, 3) := by decide +kernel
theorem dX6_judge_25 : decode cX6_judge 25 = .ok (.aload_n 0, 1) := by decide +kernel
theorem dX6_judge_26 : decode cX6_judge 26 = .ok (.invokevirtual 180, 3) := by decide +kernel
theorem dX6_judge_29 : decode cX6_judge 29 = .ok (.bipush (-9), 2) := by decide +kernel
theorem dX6_judge_31 : decode cX6_judge 31 = .ok (.istore_n 3, 1) := by decide +kernel
theorem dX6_judge_32 : decode cX6_judge 32 = .ok (.iconst 0, 1) := by decide +kernel
theorem dX6_judge_33 : decode cX6_judge 33 = .ok (.istore 4, 2) := by decide +kernel
theorem dX6_judge_35 : decode cX6_judge 35 = .ok (.iload 4, 2) := by decide +kernel
theorem dX6_judge_37 : decode cX6_judge 37 = .ok (.iload_n 2, 1) := by decide +kernel
theorem dX6_judge_38 : decode cX6_judge 38 = .ok (.if_icmp .ge 86, 3) := by decide +kernel
theorem dX6_judge_41 : decode cX6_judge 41 = .ok (.aload_n 0, 1) := by decide +kernel
theorem dX6_judge_42 : decode cX6_judge 42 = .ok (.iload_n 3, 1) := by decide +kernel
theorem dX6_judge_43 : decode cX6_judge 43 = .ok (.ifCond .ge 7, 3) := by decide +kernel
theorem dX6_judge_46 : decode cX6_judge 46 = .ok (.iconst 0, 1) := by decide +kernel
theorem dX6_judge_47 : decode cX6_judge 47 = .ok (.goto 6, 3) := by decide +kernel
theorem dX6_judge_50 : decode cX6_judge 50 = .ok (.iload_n 3, 1) := by decide +kernel
theorem dX6_judge_51 : decode cX6_judge 51 = .ok (.iconst 1, 1) := by decide +kernel
theorem dX6_judge_52 : decode cX6_judge 52 = .ok (.iadd, 1) := by decide +kernel
theorem dX6_judge_53 : decode cX6_judge 53 = .ok (.aload_n 0, 1) := by decide +kernel
theorem dX6_judge_54 : decode cX6_judge 54 = .ok (.getfield 43, 3) := by decide +kernel
theorem dX6_judge_57 : decode cX6_judge 57 = .ok (.iload 4, 2) := by decide +kernel
theorem dX6_judge_59 : decode cX6_judge 59 = .ok (.iaload, 1) := by decide +kernel
theorem dX6_judge_60 : decode cX6_judge 60 = .ok (.invokevirtual 210, 3) := by decide +kernel
theorem dX6_judge_63 : decode cX6_judge 63 = .ok (.istore 5, 2) := by decide +kernel
theorem dX6_judge_65 : decode cX6_judge 65 = .ok (.iload 5, 2) := by decide +kernel
theorem dX6_judge_67 : decode cX6_judge 67 = .ok (.ifCond .ge 14, 3) := by decide +kernel
theorem dX6_judge_70 : decode cX6_judge 70 = .ok (.iload_n 1, 1) := by decide +kernel
theorem dX6_judge_71 : decode cX6_judge 71 = .ok (.ifCond .ne 8, 3) := by decide +kernel
theorem dX6_judge_74 : decode cX6_judge 74 = .ok (.iload 4, 2) := by decide +kernel
theorem dX6_judge_76 : decode cX6_judge 76 = .ok (.goto 4, 3) := by decide +kernel
theorem dX6_judge_79 : decode cX6_judge 79 = .ok (.iload_n 3, 1) := by decide +kernel
theorem dX6_judge_80 : decode cX6_judge 80 = .ok (.ireturn, 1) := by decide +kernel
theorem dX6_judge_81 : decode cX6_judge 81 = .ok (.aload_n 0, 1) := by decide +kernel
theorem dX6_judge_82 : decode cX6_judge 82 = .ok (.getfield 43, 3) := by decide +kernel
theorem dX6_judge_85 : decode cX6_judge 85 = .ok (.iload 4, 2) := by decide +kernel
theorem dX6_judge_87 : decode cX6_judge 87 = .ok (.iaload, 1) := by decide +kernel
theorem dX6_judge_88 : decode cX6_judge 88 = .ok (.bipush 9, 2) := by decide +kernel
theorem dX6_judge_90 : decode cX6_judge 90 = .ok (.if_icmp .ne 12, 3) := by decide +kernel
theorem dX6_judge_93 : decode cX6_judge 93 = .ok (.aload_n 0, 1) := by decide +kernel
theorem dX6_judge_94 : decode cX6_judge 94 = .ok (.iload 5, 2) := by decide +kernel
theorem dX6_judge_96 : decode cX6_judge 96 = .ok (.invokevirtual 164, 3) := by decide +kernel
theorem dX6_judge_99 : decode cX6_judge 99 = .ok (.goto 16, 3) := by decide +kernel
theorem dX6_judge_102 : decode cX6_judge 102 = .ok (.aload_n 0, 1) := by decide +kernel
theorem dX6_judge_103 : decode cX6_judge 103 = .ok (.iload 5, 2) := by decide +kernel
theorem dX6_judge_105 : decode cX6_judge 105 = .ok (.aload_n 0, 1) := by decide +kernel
theorem dX6_judge_106 : decode cX6_judge 106 = .ok (.getfield 43, 3) := by decide +kernel
theorem dX6_judge_109 : decode cX6_judge 109 = .ok (.iload 4, 2) := by decide +kernel
theorem dX6_judge_111 : decode cX6_judge 111 = .ok (.iaload, 1) := by decide +kernel
theorem dX6_judge_112 : decode cX6_judge 112 = .ok (.invokevirtual 176, 3) := by decide +kernel
theorem dX6_judge_115 : decode cX6_judge 115 = .ok (.iload 5, 2) := by decide +kernel
theorem dX6_judge_117 : decode cX6_judge 117 = .ok (.istore_n 3, 1) := by decide +kernel
theorem dX6_judge_118 : decode cX6_judge 118 = .ok (.iinc 4 1, 3) := by decide +kernel
theorem dX6_judge_121 : decode cX6_judge 121 = .ok (.goto (-86), 3) := by decide +kernel
theorem dX6_judge_124 : decode cX6_judge 124 = .ok (.iload_n 1, 1) := by decide +kernel
theorem dX6_judge_125 : decode cX6_judge 125 = .ok (.ifCond .ne 8, 3) := by decide +kernel
theorem dX6_judge_128 : decode cX6_judge 128 = .ok (.bipush (-9), 2) := by decide +kernel
theorem dX6_judge_130 : decode cX6_judge 130 = .ok (.goto 4, 3) := by decide +kernel
theorem dX6_judge_133 : decode cX6_judge 133 = .ok (.iload_n 3, 1) := by decide +kernel
theorem dX6_judge_134 : decode cX6_judge 134 = .ok (.ireturn, 1) := by decide +kernel
theorem dX6_image_0 : decode cX6_image 0 = .ok (.iconst 0, 1) := by decide +kernel
theorem dX6_image_1 : decode cX6_image 1 = .ok (.istore_n 1, 1) := by decide +kernel
theorem dX6_image_2 : decode cX6_image 2 = .ok (.iload_n 1, 1) := by decide +kernel
theorem dX6_image_3 : decode cX6_image 3 = .ok (.bipush 47, 2) := by decide +kernel
theorem dX6_image_5 : decode cX6_image 5 = .ok (.if_icmp .ge 21, 3) := by decide +kernel
theorem dX6_image_8 : decode cX6_image 8 = .ok (.aload_n 0, 1) := by decide +kernel
theorem dX6_image_9 : decode cX6_image 9 = .ok (.getfield 16, 3) := by decide +kernel
theorem dX6_image_12 : decode cX6_image 12 = .ok (.iload_n 1, 1) := by decide +kernel
theorem dX6_image_13 : decode cX6_image 13 = .ok (.aload_n 0, 1) := by decide +kernel
theorem dX6_image_14 : decode cX6_image 14 = .ok (.getfield 13, 3) := by decide +kernel
theorem dX6_image_17 : decode cX6_image 17 = .ok (.iload_n 1, 1) := by decide +kernel
theorem dX6_image_18 : decode cX6_image 18 = .ok (.iaload, 1) := by decide +kernel
theorem dX6_image_19 : decode cX6_image 19 = .ok (.iastore, 1) := by decide +kernel
theorem dX6_image_20 : decode cX6_image 20 = .ok (.iinc 1 1, 3) := by decide +kernel
theorem dX6_image_23 : decode cX6_image 23 = .ok (.goto (-21), 3) := by decide +kernel
theorem dX6_image_26 : decode cX6_image 26 = .ok (.aload_n 0, 1) := by decide +kernel
theorem dX6_image_27 : decode cX6_image 27 = .ok (.iconst 1, 1) := by decide +kernel
theorem dX6_image_28 : decode cX6_image 28 = .ok (.putfield 214, 3) := by decide +kernel
theorem dX6_image_31 : decode cX6_image 31 = .ok (.aload_n 0, 1) := by decide +kernel
theorem dX6_image_32 : decode cX6_image 32 = .ok (.getfield 13, 3) := by decide +kernel
theorem dX6_image_35 : decode cX6_image 35 = .ok (.iconst 1, 1) := by decide +kernel
theorem dX6_image_36 : decode cX6_image 36 = .ok (.iaload, 1) := by decide +kernel
theorem dX6_image_37 : decode cX6_image 37 = .ok (.ireturn, 1) := by decide +kernel
theorem dX6_on_0 : decode cX6_on 0 = .ok (.aload_n 0, 1) := by decide +kernel
theorem dX6_on_1 : decode cX6_on 1 = .ok (.getfield 214, 3) := by decide +kernel
theorem dX6_on_4 : decode cX6_on 4 = .ok (.ifCond .ne 10, 3) := by decide +kernel
theorem dX6_on_7 : decode cX6_on 7 = .ok (.aload_n 0, 1) := by decide +kernel
theorem dX6_on_8 : decode cX6_on 8 = .ok (.bipush (-3), 2) := by decide +kernel
theorem dX6_on_10 : decode cX6_on 10 = .ok (.invokevirtual 50, 3) := by decide +kernel
theorem dX6_on_13 : decode cX6_on 13 = .ok (.ireturn, 1) := by decide +kernel
theorem dX6_on_14 : decode cX6_on 14 = .ok (.iconst 0, 1) := by decide +kernel
theorem dX6_on_15 : decode cX6_on 15 = .ok (.istore_n 1, 1) := by decide +kernel
theorem dX6_on_16 : decode cX6_on 16 = .ok (.iload_n 1, 1) := by decide +kernel
theorem dX6_on_17 : decode cX6_on 17 = .ok (.bipush 47, 2) := by decide +kernel
theorem dX6_on_19 : decode cX6_on 19 = .ok (.if_icmp .ge 21, 3) := by decide +kernel
theorem dX6_on_22 : decode cX6_on 22 = .ok (.aload_n 0, 1) := by decide +kernel
theorem dX6_on_23 : decode cX6_on 23 = .ok (.getfield 13, 3) := by decide +kernel
theorem dX6_on_26 : decode cX6_on 26 = .ok (.iload_n 1, 1) := by decide +kernel
theorem dX6_on_27 : decode cX6_on 27 = .ok (.aload_n 0, 1) := by decide +kernel
theorem dX6_on_28 : decode cX6_on 28 = .ok (.getfield 16, 3) := by decide +kernel
theorem dX6_on_31 : decode cX6_on 31 = .ok (.iload_n 1, 1) := by decide +kernel
theorem dX6_on_32 : decode cX6_on 32 = .ok (.iaload, 1) := by decide +kernel
theorem dX6_on_33 : decode cX6_on 33 = .ok (.iastore, 1) := by decide +kernel
theorem dX6_on_34 : decode cX6_on 34 = .ok (.iinc 1 1, 3) := by decide +kernel
theorem dX6_on_37 : decode cX6_on 37 = .ok (.goto (-21), 3) := by decide +kernel
theorem dX6_on_40 : decode cX6_on 40 = .ok (.aload_n 0, 1) := by decide +kernel
theorem dX6_on_41 : decode cX6_on 41 = .ok (.getfield 13, 3) := by decide +kernel
theorem dX6_on_44 : decode cX6_on 44 = .ok (.iconst 1, 1) := by decide +kernel
theorem dX6_on_45 : decode cX6_on 45 = .ok (.iaload, 1) := by decide +kernel
theorem dX6_on_46 : decode cX6_on 46 = .ok (.ireturn, 1) := by decide +kernel
theorem dX6_count_0 : decode cX6_count 0 = .ok (.iload_n 1, 1) := by decide +kernel
theorem dX6_count_1 : decode cX6_count 1 = .ok (.bipush 10, 2) := by decide +kernel
theorem dX6_count_3 : decode cX6_count 3 = .ok (.if_icmp .le 19, 3) := by decide +kernel
theorem dX6_count_6 : decode cX6_count 6 = .ok (.iload_n 1, 1) := by decide +kernel
theorem dX6_count_7 : decode cX6_count 7 = .ok (.bipush 17, 2) := by decide +kernel
theorem dX6_count_9 : decode cX6_count 9 = .ok (.if_icmp .ge 13, 3) := by decide +kernel
theorem dX6_count_12 : decode cX6_count 12 = .ok (.aload_n 0, 1) := by decide +kernel
theorem dX6_count_13 : decode cX6_count 13 = .ok (.getfield 7, 3) := by decide +kernel
theorem dX6_count_16 : decode cX6_count 16 = .ok (.iload_n 1, 1) := by decide +kernel
theorem dX6_count_17 : decode cX6_count 17 = .ok (.bipush 10, 2) := by decide +kernel
theorem dX6_count_19 : decode cX6_count 19 = .ok (.isub, 1) := by decide +kernel
theorem dX6_count_20 : decode cX6_count 20 = .ok (.iaload, 1) := by decide +kernel
theorem dX6_count_21 : decode cX6_count 21 = .ok (.ireturn, 1) := by decide +kernel
theorem dX6_count_22 : decode cX6_count 22 = .ok (.iconst 0, 1) := by decide +kernel
theorem dX6_count_23 : decode cX6_count 23 = .ok (.istore_n 2, 1) := by decide +kernel
theorem dX6_count_24 : decode cX6_count 24 = .ok (.iload_n 1, 1) := by decide +kernel
theorem dX6_count_25 : decode cX6_count 25 = .ok (.tableswitch 117 0 7 #[47, 47, 47, 54, 59, 100, 107, 112], 47) := by decide +kernel
theorem dX6_count_72 : decode cX6_count 72 = .ok (.aload_n 0, 1) := by decide +kernel
theorem dX6_count_73 : decode cX6_count 73 = .ok (.getfield 13, 3) := by decide +kernel
theorem dX6_count_76 : decode cX6_count 76 = .ok (.iload_n 1, 1) := by decide +kernel
theorem dX6_count_77 : decode cX6_count 77 = .ok (.iaload, 1) := by decide +kernel
theorem dX6_count_78 : decode cX6_count 78 = .ok (.ireturn, 1) := by decide +kernel
theorem dX6_count_79 : decode cX6_count 79 = .ok (.aload_n 0, 1) := by decide +kernel
theorem dX6_count_80 : decode cX6_count 80 = .ok (.invokevirtual 139, 3) := by decide +kernel
theorem dX6_count_83 : decode cX6_count 83 = .ok (.ireturn, 1) := by decide +kernel
theorem dX6_count_84 : decode cX6_count 84 = .ok (.aload_n 0, 1) := by decide +kernel
theorem dX6_count_85 : decode cX6_count 85 = .ok (.invokevirtual 186, 3) := by decide +kernel
theorem dX6_count_88 : decode cX6_count 88 = .ok (.iconst 0, 1) := by decide +kernel
theorem dX6_count_89 : decode cX6_count 89 = .ok (.istore_n 3, 1) := by decide +kernel
theorem dX6_count_90 : decode cX6_count 90 = .ok (.iload_n 3, 1) := by decide +kernel
theorem dX6_count_91 : decode cX6_count 91 = .ok (.aload_n 0, 1) := by decide +kernel
theorem dX6_count_92 : decode cX6_count 92 = .ok (.getfield 13, 3) := by decide +kernel
theorem dX6_count_95 : decode cX6_count 95 = .ok (.iconst 1, 1) := by decide +kernel
theorem dX6_count_96 : decode cX6_count 96 = .ok (.iaload, 1) := by decide +kernel
theorem dX6_count_97 : decode cX6_count 97 = .ok (.if_icmp .ge 26, 3) := by decide +kernel
theorem dX6_count_100 : decode cX6_count 100 = .ok (.iload_n 2, 1) := by decide +kernel
theorem dX6_count_101 : decode cX6_count 101 = .ok (.aload_n 0, 1) := by decide +kernel
theorem dX6_count_102 : decode cX6_count 102 = .ok (.getfield 34, 3) := by decide +kernel
theorem dX6_count_105 : decode cX6_count 105 = .ok (.iload_n 3, 1) := by decide +kernel
theorem dX6_count_106 : decode cX6_count 106 = .ok (.iaload, 1) := by decide +kernel
theorem dX6_count_107 : decode cX6_count 107 = .ok (.ifCond .lt 7, 3) := by decide +kernel
theorem dX6_count_110 : decode cX6_count 110 = .ok (.iconst 1, 1) := by decide +kernel
theorem dX6_count_111 : decode cX6_count 111 = .ok (.goto 4, 3) := by decide +kernel
theorem dX6_count_114 : decode cX6_count 114 = .ok (.iconst 0, 1) := by decide +kernel
theorem dX6_count_115 : decode cX6_count 115 = .ok (.iadd, 1) := by decide +kernel
theorem dX6_count_116 : decode cX6_count 116 = .ok (.istore_n 2, 1) := by decide +kernel
theorem dX6_count_117 : decode cX6_count 117 = .ok (.iinc 3 1, 3) := by decide +kernel
theorem dX6_count_120 : decode cX6_count 120 = .ok (.goto (-30), 3) := by decide +kernel
theorem dX6_count_123 : decode cX6_count 123 = .ok (.iload_n 2, 1) := by decide +kernel
theorem dX6_count_124 : decode cX6_count 124 = .ok (.ireturn, 1) := by decide +kernel
theorem dX6_count_125 : decode cX6_count 125 = .ok (.aload_n 0, 1) := by decide +kernel
theorem dX6_count_126 : decode cX6_count 126 = .ok (.getfield 13, 3) := by decide +kernel
theorem dX6_count_129 : decode cX6_count 129 = .ok (.iconst 3, 1) := by decide +kernel
theorem dX6_count_130 : decode cX6_count 130 = .ok (.iaload, 1) := by decide +kernel
theorem dX6_count_131 : decode cX6_count 131 = .ok (.ireturn, 1) := by decide +kernel
theorem dX6_count_132 : decode cX6_count 132 = .ok (.aload_n 0, 1) := by decide +kernel
theorem dX6_count_133 : decode cX6_count 133 = .ok (.getfield 207, 3) := by decide +kernel
theorem dX6_count_136 : decode cX6_count 136 = .ok (.ireturn, 1) := by decide +kernel
theorem dX6_count_137 : decode cX6_count 137 = .ok (.aload_n 0, 1) := by decide +kernel
theorem dX6_count_138 : decode cX6_count 138 = .ok (.getfield 54, 3) := by decide +kernel
theorem dX6_count_141 : decode cX6_count 141 = .ok (.ireturn, 1) := by decide +kernel
theorem dX6_count_142 : decode cX6_count 142 = .ok (.bipush (-9), 2) := by decide +kernel
theorem dX6_count_144 : decode cX6_count 144 = .ok (.ireturn, 1) := by decide +kernel
theorem dL_law_0 : decode cL_law 0 = .ok (.new 7, 3) := by decide +kernel
theorem dL_law_3 : decode cL_law 3 = .ok (.dup, 1) := by decide +kernel
theorem dL_law_4 : decode cL_law 4 = .ok (.invokespecial 9, 3) := by decide +kernel
theorem dL_law_7 : decode cL_law 7 = .ok (.astore_n 1, 1) := by decide +kernel
theorem dL_law_8 : decode cL_law 8 = .ok (.new 10, 3) := by decide +kernel
theorem dL_law_11 : decode cL_law 11 = .ok (.dup, 1) := by decide +kernel
theorem dL_law_12 : decode cL_law 12 = .ok (.invokespecial 12, 3) := by decide +kernel
theorem dL_law_15 : decode cL_law 15 = .ok (.astore_n 2, 1) := by decide +kernel
theorem dL_law_16 : decode cL_law 16 = .ok (.iconst 0, 1) := by decide +kernel
theorem dL_law_17 : decode cL_law 17 = .ok (.istore_n 3, 1) := by decide +kernel
theorem dL_law_18 : decode cL_law 18 = .ok (.iload_n 3, 1) := by decide +kernel
theorem dL_law_19 : decode cL_law 19 = .ok (.aload_n 0, 1) := by decide +kernel
theorem dL_law_20 : decode cL_law 20 = .ok (.arraylength, 1) := by decide +kernel
theorem dL_law_21 : decode cL_law 21 = .ok (.iconst 4, 1) := by decide +kernel
theorem dL_law_22 : decode cL_law 22 = .ok (.isub, 1) := by decide +kernel
theorem dL_law_23 : decode cL_law 23 = .ok (.if_icmp .gt 749, 3) := by decide +kernel
theorem dL_law_26 : decode cL_law 26 = .ok (.aload_n 0, 1) := by decide +kernel
theorem dL_law_27 : decode cL_law 27 = .ok (.iload_n 3, 1) := by decide +kernel
theorem dL_law_28 : decode cL_law 28 = .ok (.iaload, 1) := by decide +kernel
theorem dL_law_29 : decode cL_law 29 = .ok (.bipush 31, 2) := by decide +kernel
theorem dL_law_31 : decode cL_law 31 = .ok (.iand, 1) := by decide +kernel
theorem dL_law_32 : decode cL_law 32 = .ok (.tableswitch 734 0 25 #[120, 183, 196, 229, 262, 295, 344, 377, 400, 423, 436, 459, 482, 495, 508, 531, 554, 567, 590, 613, 626, 639, 662, 685, 698, 711], 120) := by decide +kernel
theorem dL_law_152 : decode cL_law 152 = .ok (.aload_n 1, 1) := by decide +kernel
theorem dL_law_153 : decode cL_law 153 = .ok (.aload_n 0, 1) := by decide +kernel
theorem dL_law_154 : decode cL_law 154 = .ok (.iload_n 3, 1) := by decide +kernel
theorem dL_law_155 : decode cL_law 155 = .ok (.iconst 1, 1) := by decide +kernel
theorem dL_law_156 : decode cL_law 156 = .ok (.iadd, 1) := by decide +kernel
theorem dL_law_157 : decode cL_law 157 = .ok (.iaload, 1) := by decide +kernel
theorem dL_law_158 : decode cL_law 158 = .ok (.aload_n 0, 1) := by decide +kernel
theorem dL_law_159 : decode cL_law 159 = .ok (.iload_n 3, 1) := by decide +kernel
theorem dL_law_160 : decode cL_law 160 = .ok (.iconst 2, 1) := by decide +kernel
theorem dL_law_161 : decode cL_law 161 = .ok (.iadd, 1) := by decide +kernel
theorem dL_law_162 : decode cL_law 162 = .ok (.iaload, 1) := by decide +kernel
theorem dL_law_163 : decode cL_law 163 = .ok (.i2l, 1) := by decide +kernel
theorem dL_law_164 : decode cL_law 164 = .ok (.bipush 32, 2) := by decide +kernel
theorem dL_law_166 : decode cL_law 166 = .ok (.lshl, 1) := by decide +kernel
theorem dL_law_167 : decode cL_law 167 = .ok (.aload_n 0, 1) := by decide +kernel
theorem dL_law_168 : decode cL_law 168 = .ok (.iload_n 3, 1) := by decide +kernel
theorem dL_law_169 : decode cL_law 169 = .ok (.iconst 3, 1) := by decide +kernel
theorem dL_law_170 : decode cL_law 170 = .ok (.iadd, 1) := by decide +kernel
theorem dL_law_171 : decode cL_law 171 = .ok (.iaload, 1) := by decide +kernel
theorem dL_law_172 : decode cL_law 172 = .ok (.i2l, 1) := by decide +kernel
theorem dL_law_173 : decode cL_law 173 = .ok (.ldc2_w 13, 3) := by decide +kernel
theorem dL_law_176 : decode cL_law 176 = .ok (.land, 1) := by decide +kernel
theorem dL_law_177 : decode cL_law 177 = .ok (.lor, 1) := by decide +kernel
theorem dL_law_178 : decode cL_law 178 = .ok (.invokevirtual 15, 3) := by decide +kernel
theorem dL_law_181 : decode cL_law 181 = .ok (.aload_n 2, 1) := by decide +kernel
theorem dL_law_182 : decode cL_law 182 = .ok (.aload_n 0, 1) := by decide +kernel
theorem dL_law_183 : decode cL_law 183 = .ok (.iload_n 3, 1) := by decide +kernel
theorem dL_law_184 : decode cL_law 184 = .ok (.iconst 1, 1) := by decide +kernel
theorem dL_law_185 : decode cL_law 185 = .ok (.iadd, 1) := by decide +kernel
theorem dL_law_186 : decode cL_law 186 = .ok (.iaload, 1) := by decide +kernel
theorem dL_law_187 : decode cL_law 187 = .ok (.aload_n 0, 1) := by decide +kernel
theorem dL_law_188 : decode cL_law 188 = .ok (.iload_n 3, 1) := by decide +kernel
theorem dL_law_189 : decode cL_law 189 = .ok (.iconst 2, 1) := by decide +kernel
theorem dL_law_190 : decode cL_law 190 = .ok (.iadd, 1) := by decide +kernel
theorem dL_law_191 : decode cL_law 191 = .ok (.iaload, 1) := by decide +kernel
theorem dL_law_192 : decode cL_law 192 = .ok (.i2l, 1) := by decide +kernel
theorem dL_law_193 : decode cL_law 193 = .ok (.bipush 32, 2) := by decide +kernel
theorem dL_law_195 : decode cL_law 195 = .ok (.lshl, 1) := by decide +kernel
theorem dL_law_196 : decode cL_law 196 = .ok (.aload_n 0, 1) := by decide +kernel
theorem dL_law_197 : decode cL_law 197 = .ok (.iload_n 3, 1) := by decide +kernel
theorem dL_law_198 : decode cL_law 198 = .ok (.iconst 3, 1) := by decide +kernel
theorem dL_law_199 : decode cL_law 199 = .ok (.iadd, 1) := by decide +kernel
theorem dL_law_200 : decode cL_law 200 = .ok (.iaload, 1) := by decide +kernel
theorem dL_law_201 : decode cL_law 201 = .ok (.i2l, 1) := by decide +kernel
theorem dL_law_202 : decode cL_law 202 = .ok (.ldc2_w 13, 3) := by decide +kernel
theorem dL_law_205 : decode cL_law 205 = .ok (.land, 1) := by decide +kernel
theorem dL_law_206 : decode cL_law 206 = .ok (.lor, 1) := by decide +kernel
theorem dL_law_207 : decode cL_law 207 = .ok (.invokevirtual 19, 3) := by decide +kernel
theorem dL_law_210 : decode cL_law 210 = .ok (.if_icmp .eq 556, 3) := by decide +kernel
theorem dL_law_213 : decode cL_law 213 = .ok (.iconst 0, 1) := by decide +kernel
theorem dL_law_214 : decode cL_law 214 = .ok (.ireturn, 1) := by decide +kernel
theorem dL_law_215 : decode cL_law 215 = .ok (.aload_n 1, 1) := by decide +kernel
theorem dL_law_216 : decode cL_law 216 = .ok (.invokevirtual 20, 3) := by decide +kernel
theorem dL_law_219 : decode cL_law 219 = .ok (.aload_n 2, 1) := by decide +kernel
theorem dL_law_220 : decode cL_law 220 = .ok (.invokevirtual 24, 3) := by decide +kernel
theorem dL_law_223 : decode cL_law 223 = .ok (.if_icmp .eq 543, 3) := by decide +kernel
theorem dL_law_226 : decode cL_law 226 = .ok (.iconst 0, 1) := by decide +kernel
theorem dL_law_227 : decode cL_law 227 = .ok (.ireturn, 1) := by decide +kernel
theorem dL_law_228 : decode cL_law 228 = .ok (.aload_n 1, 1) := by decide +kernel
theorem dL_law_229 : decode cL_law 229 = .ok (.aload_n 0, 1) := by decide +kernel
theorem dL_law_230 : decode cL_law 230 = .ok (.iload_n 3, 1) := by decide +kernel
theorem dL_law_231 : decode cL_law 231 = .ok (.iconst 1, 1) := by decide +kernel
theorem dL_law_232 : decode cL_law 232 = .ok (.iadd, 1) := by decide +kernel
theorem dL_law_233 : decode cL_law 233 = .ok (.iaload, 1) := by decide +kernel
theorem dL_law_234 : decode cL_law 234 = .ok (.aload_n 0, 1) := by decide +kernel
theorem dL_law_235 : decode cL_law 235 = .ok (.iload_n 3, 1) := by decide +kernel
theorem dL_law_236 : decode cL_law 236 = .ok (.iconst 2, 1) := by decide +kernel
theorem dL_law_237 : decode cL_law 237 = .ok (.iadd, 1) := by decide +kernel
theorem dL_law_238 : decode cL_law 238 = .ok (.iaload, 1) := by decide +kernel
theorem dL_law_239 : decode cL_law 239 = .ok (.invokevirtual 25, 3) := by decide +kernel
theorem dL_law_242 : decode cL_law 242 = .ok (.aload_n 2, 1) := by decide +kernel
theorem dL_law_243 : decode cL_law 243 = .ok (.aload_n 0, 1) := by decide +kernel
theorem dL_law_244 : decode cL_law 244 = .ok (.iload_n 3, 1) := by decide +kernel
theorem dL_law_245 : decode cL_law 245 = .ok (.iconst 1, 1) := by decide +kernel
theorem dL_law_246 : decode cL_law 246 = .ok (.iadd, 1) := by decide +kernel
theorem dL_law_247 : decode cL_law 247 = .ok (.iaload, 1) := by decide +kernel
theorem dL_law_248 : decode cL_law 248 = .ok (.aload_n 0, 1) := by decide +kernel
theorem dL_law_249 : decode cL_law 249 = .ok (.iload_n 3, 1) := by decide +kernel
theorem dL_law_250 : decode cL_law 250 = .ok (.iconst 2, 1) := by decide +kernel
theorem dL_law_251 : decode cL_law 251 = .ok (.iadd, 1) := by decide +kernel
theorem dL_law_252 : decode cL_law 252 = .ok (.iaload, 1) := by decide +kernel
theorem dL_law_253 : decode cL_law 253 = .ok (.invokevirtual 29, 3) := by decide +kernel
theorem dL_law_256 : decode cL_law 256 = .ok (.if_icmp .eq 510, 3) := by decide +kernel
theorem dL_law_259 : decode cL_law 259 = .ok (.iconst 0, 1) := by decide +kernel
theorem dL_law_260 : decode cL_law 260 = .ok (.ireturn, 1) := by decide +kernel
theorem dL_law_261 : decode cL_law 261 = .ok (.aload_n 1, 1) := by decide +kernel
theorem dL_law_262 : decode cL_law 262 = .ok (.aload_n 0, 1) := by decide +kernel
theorem dL_law_263 : decode cL_law 263 = .ok (.iload_n 3, 1) := by decide +kernel
theorem dL_law_264 : decode cL_law 264 = .ok (.iconst 1, 1) := by decide +kernel
theorem dL_law_265 : decode cL_law 265 = .ok (.iadd, 1) := by decide +kernel
theorem dL_law_266 : decode cL_law 266 = .ok (.iaload, 1) := by decide +kernel
theorem dL_law_267 : decode cL_law 267 = .ok (.aload_n 0, 1) := by decide +kernel
theorem dL_law_268 : decode cL_law 268 = .ok (.iload_n 3, 1) := by decide +kernel
theorem dL_law_269 : decode cL_law 269 = .ok (.iconst 2, 1) := by decide +kernel
theorem dL_law_270 : decode cL_law 270 = .ok (.iadd, 1) := by decide +kernel
theorem dL_law_271 : decode cL_law 271 = .ok (.iaload, 1) := by decide +kernel
theorem dL_law_272 : decode cL_law 272 = .ok (.invokevirtual 30, 3) := by decide +kernel
theorem dL_law_275 : decode cL_law 275 = .ok (.aload_n 2, 1) := by decide +kernel
theorem dL_law_276 : decode cL_law 276 = .ok (.aload_n 0, 1) := by decide +kernel
theorem dL_law_277 : decode cL_law 277 = .ok (.iload_n 3, 1) := by decide +kernel
theorem dL_law_278 : decode cL_law 278 = .ok (.iconst 1, 1) := by decide +kernel
theorem dL_law_279 : decode cL_law 279 = .ok (.iadd, 1) := by decide +kernel
theorem dL_law_280 : decode cL_law 280 = .ok (.iaload, 1) := by decide +kernel
theorem dL_law_281 : decode cL_law 281 = .ok (.aload_n 0, 1) := by decide +kernel
theorem dL_law_282 : decode cL_law 282 = .ok (.iload_n 3, 1) := by decide +kernel
theorem dL_law_283 : decode cL_law 283 = .ok (.iconst 2, 1) := by decide +kernel
theorem dL_law_284 : decode cL_law 284 = .ok (.iadd, 1) := by decide +kernel
theorem dL_law_285 : decode cL_law 285 = .ok (.iaload, 1) := by decide +kernel
theorem dL_law_286 : decode cL_law 286 = .ok (.invokevirtual 33, 3) := by decide +kernel
theorem dL_law_289 : decode cL_law 289 = .ok (.if_icmp .eq 477, 3) := by decide +kernel
theorem dL_law_292 : decode cL_law 292 = .ok (.iconst 0, 1) := by decide +kernel
theorem dL_law_293 : decode cL_law 293 = .ok (.ireturn, 1) := by decide +kernel
theorem dL_law_294 : decode cL_law 294 = .ok (.aload_n 1, 1) := by decide +kernel
theorem dL_law_295 : decode cL_law 295 = .ok (.aload_n 0, 1) := by decide +kernel
theorem dL_law_296 : decode cL_law 296 = .ok (.iload_n 3, 1) := by decide +kernel
theorem dL_law_297 : decode cL_law 297 = .ok (.iconst 1, 1) := by decide +kernel
theorem dL_law_298 : decode cL_law 298 = .ok (.iadd, 1) := by decide +kernel
theorem dL_law_299 : decode cL_law 299 = .ok (.iaload, 1) := by decide +kernel
theorem dL_law_300 : decode cL_law 300 = .ok (.aload_n 0, 1) := by decide +kernel
theorem dL_law_301 : decode cL_law 301 = .ok (.iload_n 3, 1) := by decide +kernel
theorem dL_law_302 : decode cL_law 302 = .ok (.iconst 2, 1) := by decide +kernel
theorem dL_law_303 : decode cL_law 303 = .ok (.iadd, 1) := by decide +kernel
theorem dL_law_304 : decode cL_law 304 = .ok (.iaload, 1) := by decide +kernel
theorem dL_law_305 : decode cL_law 305 = .ok (.invokevirtual 34, 3) := by decide +kernel
theorem dL_law_308 : decode cL_law 308 = .ok (.aload_n 2, 1) := by decide +kernel
theorem dL_law_309 : decode cL_law 309 = .ok (.aload_n 0, 1) := by decide +kernel
theorem dL_law_310 : decode cL_law 310 = .ok (.iload_n 3, 1) := by decide +kernel
theorem dL_law_311 : decode cL_law 311 = .ok (.iconst 1, 1) := by decide +kernel
theorem dL_law_312 : decode cL_law 312 = .ok (.iadd, 1) := by decide +kernel
theorem dL_law_313 : decode cL_law 313 = .ok (.iaload, 1) := by decide +kernel
theorem dL_law_314 : decode cL_law 314 = .ok (.aload_n 0, 1) := by decide +kernel
theorem dL_law_315 : decode cL_law 315 = .ok (.iload_n 3, 1) := by decide +kernel
theorem dL_law_316 : decode cL_law 316 = .ok (.iconst 2, 1) := by decide +kernel
theorem dL_law_317 : decode cL_law 317 = .ok (.iadd, 1) := by decide +kernel
theorem dL_law_318 : decode cL_law 318 = .ok (.iaload, 1) := by decide +kernel
theorem dL_law_319 : decode cL_law 319 = .ok (.invokevirtual 37, 3) := by decide +kernel
theorem dL_law_322 : decode cL_law 322 = .ok (.if_icmp .eq 444, 3) := by decide +kernel
theorem dL_law_325 : decode cL_law 325 = .ok (.iconst 0, 1) := by decide +kernel
theorem dL_law_326 : decode cL_law 326 = .ok (.ireturn, 1) := by decide +kernel
theorem dL_law_327 : decode cL_law 327 = .ok (.aload_n 1, 1) := by decide +kernel
theorem dL_law_328 : decode cL_law 328 = .ok (.aload_n 0, 1) := by decide +kernel
theorem dL_law_329 : decode cL_law 329 = .ok (.iload_n 3, 1) := by decide +kernel
theorem dL_law_330 : decode cL_law 330 = .ok (.iconst 1, 1) := by decide +kernel
theorem dL_law_331 : decode cL_law 331 = .ok (.iadd, 1) := by decide +kernel
theorem dL_law_332 : decode cL_law 332 = .ok (.iaload, 1) := by decide +kernel
theorem dL_law_333 : decode cL_law 333 = .ok (.aload_n 0, 1) := by decide +kernel
theorem dL_law_334 : decode cL_law 334 = .ok (.iload_n 3, 1) := by decide +kernel
theorem dL_law_335 : decode cL_law 335 = .ok (.iconst 2, 1) := by decide +kernel
theorem dL_law_336 : decode cL_law 336 = .ok (.iadd, 1) := by decide +kernel
theorem dL_law_337 : decode cL_law 337 = .ok (.iaload, 1) := by decide +kernel
theorem dL_law_338 : decode cL_law 338 = .ok (.ifCond .eq 7, 3) := by decide +kernel
theorem dL_law_341 : decode cL_law 341 = .ok (.iconst 1, 1) := by decide +kernel
theorem dL_law_342 : decode cL_law 342 = .ok (.goto 4, 3) := by decide +kernel
theorem dL_law_345 : decode cL_law 345 = .ok (.iconst 0, 1) := by decide +kernel
theorem dL_law_346 : decode cL_law 346 = .ok (.invokevirtual 38, 3) := by decide +kernel
theorem dL_law_349 : decode cL_law 349 = .ok (.aload_n 2, 1) := by decide +kernel
theorem dL_law_350 : decode cL_law 350 = .ok (.aload_n 0, 1) := by decide +kernel
theorem dL_law_351 : decode cL_law 351 = .ok (.iload_n 3, 1) := by decide +kernel
theorem dL_law_352 : decode cL_law 352 = .ok (.iconst 1, 1) := by decide +kernel
theorem dL_law_353 : decode cL_law 353 = .ok (.iadd, 1) := by decide +kernel
theorem dL_law_354 : decode cL_law 354 = .ok (.iaload, 1) := by decide +kernel
theorem dL_law_355 : decode cL_law 355 = .ok (.aload_n 0, 1) := by decide +kernel
theorem dL_law_356 : decode cL_law 356 = .ok (.iload_n 3, 1) := by decide +kernel
theorem dL_law_357 : decode cL_law 357 = .ok (.iconst 2, 1) := by decide +kernel
theorem dL_law_358 : decode cL_law 358 = .ok (.iadd, 1) := by decide +kernel
theorem dL_law_359 : decode cL_law 359 = .ok (.iaload, 1) := by decide +kernel
theorem dL_law_360 : decode cL_law 360 = .ok (.ifCond .eq 7, 3) := by decide +kernel
theorem dL_law_363 : decode cL_law 363 = .ok (.iconst 1, 1) := by decide +kernel
theorem dL_law_364 : decode cL_law 364 = .ok (.goto 4, 3) := by decide +kernel
theorem dL_law_367 : decode cL_law 367 = .ok (.iconst 0, 1) := by decide +kernel
theorem dL_law_368 : decode cL_law 368 = .ok (.invokevirtual 42, 3) := by decide +kernel
theorem dL_law_371 : decode cL_law 371 = .ok (.if_icmp .eq 395, 3) := by decide +kernel
theorem dL_law_374 : decode cL_law 374 = .ok (.iconst 0, 1) := by decide +kernel
theorem dL_law_375 : decode cL_law 375 = .ok (.ireturn, 1) := by decide +kernel
theorem dL_law_376 : decode cL_law 376 = .ok (.aload_n 1, 1) := by decide +kernel
theorem dL_law_377 : decode cL_law 377 = .ok (.aload_n 0, 1) := by decide +kernel
theorem dL_law_378 : decode cL_law 378 = .ok (.iload_n 3, 1) := by decide +kernel
theorem dL_law_379 : decode cL_law 379 = .ok (.iconst 1, 1) := by decide +kernel
theorem dL_law_380 : decode cL_law 380 = .ok (.iadd, 1) := by decide +kernel
theorem dL_law_381 : decode cL_law 381 = .ok (.iaload, 1) := by decide +kernel
theorem dL_law_382 : decode cL_law 382 = .ok (.aload_n 0, 1) := by decide +kernel
theorem dL_law_383 : decode cL_law 383 = .ok (.iload_n 3, 1) := by decide +kernel
theorem dL_law_384 : decode cL_law 384 = .ok (.iconst 2, 1) := by decide +kernel
theorem dL_law_385 : decode cL_law 385 = .ok (.iadd, 1) := by decide +kernel
theorem dL_law_386 : decode cL_law 386 = .ok (.iaload, 1) := by decide +kernel
theorem dL_law_387 : decode cL_law 387 = .ok (.invokevirtual 43, 3) := by decide +kernel
theorem dL_law_390 : decode cL_law 390 = .ok (.aload_n 2, 1) := by decide +kernel
theorem dL_law_391 : decode cL_law 391 = .ok (.aload_n 0, 1) := by decide +kernel
theorem dL_law_392 : decode cL_law 392 = .ok (.iload_n 3, 1) := by decide +kernel
theorem dL_law_393 : decode cL_law 393 = .ok (.iconst 1, 1) := by decide +kernel
theorem dL_law_394 : decode cL_law 394 = .ok (.iadd, 1) := by decide +kernel
theorem dL_law_395 : decode cL_law 395 = .ok (.iaload, 1) := by decide +kernel
theorem dL_law_396 : decode cL_law 396 = .ok (.aload_n 0, 1) := by decide +kernel
theorem dL_law_397 : decode cL_law 397 = .ok (.iload_n 3, 1) := by decide +kernel
theorem dL_law_398 : decode cL_law 398 = .ok (.iconst 2, 1) := by decide +kernel
theorem dL_law_399 : decode cL_law 399 = .ok (.iadd, 1) := by decide +kernel
theorem dL_law_400 : decode cL_law 400 = .ok (.iaload, 1) := by decide +kernel
theorem dL_law_401 : decode cL_law 401 = .ok (.invokevirtual 46, 3) := by decide +kernel
theorem dL_law_404 : decode cL_law 404 = .ok (.if_icmp .eq 362, 3) := by decide +kernel
theorem dL_law_407 : decode cL_law 407 = .ok (.iconst 0, 1) := by decide +kernel
theorem dL_law_408 : decode cL_law 408 = .ok (.ireturn, 1) := by decide +kernel
theorem dL_law_409 : decode cL_law 409 = .ok (.aload_n 1, 1) := by decide +kernel
theorem dL_law_410 : decode cL_law 410 = .ok (.aload_n 0, 1) := by decide +kernel
theorem dL_law_411 : decode cL_law 411 = .ok (.iload_n 3, 1) := by decide +kernel
theorem dL_law_412 : decode cL_law 412 = .ok (.iconst 1, 1) := by decide +kernel
theorem dL_law_413 : decode cL_law 413 = .ok (.iadd, 1) := by decide +kernel
theorem dL_law_414 : decode cL_law 414 = .ok (.iaload, 1) := by decide +kernel
theorem dL_law_415 : decode cL_law 415 = .ok (.invokevirtual 47, 3) := by decide +kernel
theorem dL_law_418 : decode cL_law 418 = .ok (.aload_n 2, 1) := by decide +kernel
theorem dL_law_419 : decode cL_law 419 = .ok (.aload_n 0, 1) := by decide +kernel
theorem dL_law_420 : decode cL_law 420 = .ok (.iload_n 3, 1) := by decide +kernel
theorem dL_law_421 : decode cL_law 421 = .ok (.iconst 1, 1) := by decide +kernel
theorem dL_law_422 : decode cL_law 422 = .ok (.iadd, 1) := by decide +kernel
theorem dL_law_423 : decode cL_law 423 = .ok (.iaload, 1) := by decide +kernel
theorem dL_law_424 : decode cL_law 424 = .ok (.invokevirtual 51, 3) := by decide +kernel
theorem dL_law_427 : decode cL_law 427 = .ok (.if_icmp .eq 339, 3) := by decide +kernel
theorem dL_law_430 : decode cL_law 430 = .ok (.iconst 0, 1) := by decide +kernel
theorem dL_law_431 : decode cL_law 431 = .ok (.ireturn, 1) := by decide +kernel
theorem dL_law_432 : decode cL_law 432 = .ok (.aload_n 1, 1) := by decide +kernel
theorem dL_law_433 : decode cL_law 433 = .ok (.aload_n 0, 1) := by decide +kernel
theorem dL_law_434 : decode cL_law 434 = .ok (.iload_n 3, 1) := by decide +kernel
theorem dL_law_435 : decode cL_law 435 = .ok (.iconst 1, 1) := by decide +kernel
theorem dL_law_436 : decode cL_law 436 = .ok (.iadd, 1) := by decide +kernel
theorem dL_law_437 : decode cL_law 437 = .ok (.iaload, 1) := by decide +kernel
theorem dL_law_438 : decode cL_law 438 = .ok (.invokevirtual 52, 3) := by decide +kernel
theorem dL_law_441 : decode cL_law 441 = .ok (.aload_n 2, 1) := by decide +kernel
theorem dL_law_442 : decode cL_law 442 = .ok (.aload_n 0, 1) := by decide +kernel
theorem dL_law_443 : decode cL_law 443 = .ok (.iload_n 3, 1) := by decide +kernel
theorem dL_law_444 : decode cL_law 444 = .ok (.iconst 1, 1) := by decide +kernel
theorem dL_law_445 : decode cL_law 445 = .ok (.iadd, 1) := by decide +kernel
theorem dL_law_446 : decode cL_law 446 = .ok (.iaload, 1) := by decide +kernel
theorem dL_law_447 : decode cL_law 447 = .ok (.invokevirtual 55, 3) := by decide +kernel
theorem dL_law_450 : decode cL_law 450 = .ok (.if_icmp .eq 316, 3) := by decide +kernel
theorem dL_law_453 : decode cL_law 453 = .ok (.iconst 0, 1) := by decide +kernel
theorem dL_law_454 : decode cL_law 454 = .ok (.ireturn, 1) := by decide +kernel
theorem dL_law_455 : decode cL_law 455 = .ok (.aload_n 1, 1) := by decide +kernel
theorem dL_law_456 : decode cL_law 456 = .ok (.invokevirtual 56, 3) := by decide +kernel
theorem dL_law_459 : decode cL_law 459 = .ok (.aload_n 2, 1) := by decide +kernel
theorem dL_law_460 : decode cL_law 460 = .ok (.invokevirtual 59, 3) := by decide +kernel
theorem dL_law_463 : decode cL_law 463 = .ok (.if_icmp .eq 303, 3) := by decide +kernel
theorem dL_law_466 : decode cL_law 466 = .ok (.iconst 0, 1) := by decide +kernel
theorem dL_law_467 : decode cL_law 467 = .ok (.ireturn, 1) := by decide +kernel
theorem dL_law_468 : decode cL_law 468 = .ok (.aload_n 1, 1) := by decide +kernel
theorem dL_law_469 : decode cL_law 469 = .ok (.aload_n 0, 1) := by decide +kernel
theorem dL_law_470 : decode cL_law 470 = .ok (.iload_n 3, 1) := by decide +kernel
theorem dL_law_471 : decode cL_law 471 = .ok (.iconst 1, 1) := by decide +kernel
theorem dL_law_472 : decode cL_law 472 = .ok (.iadd, 1) := by decide +kernel
theorem dL_law_473 : decode cL_law 473 = .ok (.iaload, 1) := by decide +kernel
theorem dL_law_474 : decode cL_law 474 = .ok (.invokevirtual 60, 3) := by decide +kernel
theorem dL_law_477 : decode cL_law 477 = .ok (.aload_n 2, 1) := by decide +kernel
theorem dL_law_478 : decode cL_law 478 = .ok (.aload_n 0, 1) := by decide +kernel
theorem dL_law_479 : decode cL_law 479 = .ok (.iload_n 3, 1) := by decide +kernel
theorem dL_law_480 : decode cL_law 480 = .ok (.iconst 1, 1) := by decide +kernel
theorem dL_law_481 : decode cL_law 481 = .ok (.iadd, 1) := by decide +kernel
theorem dL_law_482 : decode cL_law 482 = .ok (.iaload, 1) := by decide +kernel
theorem dL_law_483 : decode cL_law 483 = .ok (.invokevirtual 63, 3) := by decide +kernel
theorem dL_law_486 : decode cL_law 486 = .ok (.if_icmp .eq 280, 3) := by decide +kernel
theorem dL_law_489 : decode cL_law 489 = .ok (.iconst 0, 1) := by decide +kernel
theorem dL_law_490 : decode cL_law 490 = .ok (.ireturn, 1) := by decide +kernel
theorem dL_law_491 : decode cL_law 491 = .ok (.aload_n 1, 1) := by decide +kernel
theorem dL_law_492 : decode cL_law 492 = .ok (.aload_n 0, 1) := by decide +kernel
theorem dL_law_493 : decode cL_law 493 = .ok (.iload_n 3, 1) := by decide +kernel
theorem dL_law_494 : decode cL_law 494 = .ok (.iconst 1, 1) := by decide +kernel
theorem dL_law_495 : decode cL_law 495 = .ok (.iadd, 1) := by decide +kernel
theorem dL_law_496 : decode cL_law 496 = .ok (.iaload, 1) := by decide +kernel
theorem dL_law_497 : decode cL_law 497 = .ok (.invokevirtual 64, 3) := by decide +kernel
theorem dL_law_500 : decode cL_law 500 = .ok (.aload_n 2, 1) := by decide +kernel
theorem dL_law_501 : decode cL_law 501 = .ok (.aload_n 0, 1) := by decide +kernel
theorem dL_law_502 : decode cL_law 502 = .ok (.iload_n 3, 1) := by decide +kernel
theorem dL_law_503 : decode cL_law 503 = .ok (.iconst 1, 1) := by decide +kernel
theorem dL_law_504 : decode cL_law 504 = .ok (.iadd, 1) := by decide +kernel
theorem dL_law_505 : decode cL_law 505 = .ok (.iaload, 1) := by decide +kernel
theorem dL_law_506 : decode cL_law 506 = .ok (.invokevirtual 67, 3) := by decide +kernel
theorem dL_law_509 : decode cL_law 509 = .ok (.if_icmp .eq 257, 3) := by decide +kernel
theorem dL_law_512 : decode cL_law 512 = .ok (.iconst 0, 1) := by decide +kernel
theorem dL_law_513 : decode cL_law 513 = .ok (.ireturn, 1) := by decide +kernel
theorem dL_law_514 : decode cL_law 514 = .ok (.aload_n 1, 1) := by decide +kernel
theorem dL_law_515 : decode cL_law 515 = .ok (.invokevirtual 68, 3) := by decide +kernel
theorem dL_law_518 : decode cL_law 518 = .ok (.aload_n 2, 1) := by decide +kernel
theorem dL_law_519 : decode cL_law 519 = .ok (.invokevirtual 71, 3) := by decide +kernel
theorem dL_law_522 : decode cL_law 522 = .ok (.if_icmp .eq 244, 3) := by decide +kernel
theorem dL_law_525 : decode cL_law 525 = .ok (.iconst 0, 1) := by decide +kernel
theorem dL_law_526 : decode cL_law 526 = .ok (.ireturn, 1) := by decide +kernel
theorem dL_law_527 : decode cL_law 527 = .ok (.aload_n 1, 1) := by decide +kernel
theorem dL_law_528 : decode cL_law 528 = .ok (.invokevirtual 72, 3) := by decide +kernel
theorem dL_law_531 : decode cL_law 531 = .ok (.aload_n 2, 1) := by decide +kernel
theorem dL_law_532 : decode cL_law 532 = .ok (.invokevirtual 75, 3) := by decide +kernel
theorem dL_law_535 : decode cL_law 535 = .ok (.if_icmp .eq 231, 3) := by decide +kernel
theorem dL_law_538 : decode cL_law 538 = .ok (.iconst 0, 1) := by decide +kernel
theorem dL_law_539 : decode cL_law 539 = .ok (.ireturn, 1) := by decide +kernel
theorem dL_law_540 : decode cL_law 540 = .ok (.aload_n 1, 1) := by decide +kernel
theorem dL_law_541 : decode cL_law 541 = .ok (.aload_n 0, 1) := by decide +kernel
theorem dL_law_542 : decode cL_law 542 = .ok (.iload_n 3, 1) := by decide +kernel
theorem dL_law_543 : decode cL_law 543 = .ok (.iconst 1, 1) := by decide +kernel
theorem dL_law_544 : decode cL_law 544 = .ok (.iadd, 1) := by decide +kernel
theorem dL_law_545 : decode cL_law 545 = .ok (.iaload, 1) := by decide +kernel
theorem dL_law_546 : decode cL_law 546 = .ok (.invokevirtual 76, 3) := by decide +kernel
theorem dL_law_549 : decode cL_law 549 = .ok (.aload_n 2, 1) := by decide +kernel
theorem dL_law_550 : decode cL_law 550 = .ok (.aload_n 0, 1) := by decide +kernel
theorem dL_law_551 : decode cL_law 551 = .ok (.iload_n 3, 1) := by decide +kernel
theorem dL_law_552 : decode cL_law 552 = .ok (.iconst 1, 1) := by decide +kernel
theorem dL_law_553 : decode cL_law 553 = .ok (.iadd, 1) := by decide +kernel
theorem dL_law_554 : decode cL_law 554 = .ok (.iaload, 1) := by decide +kernel
theorem dL_law_555 : decode cL_law 555 = .ok (.invokevirtual 79, 3) := by decide +kernel
theorem dL_law_558 : decode cL_law 558 = .ok (.if_icmp .eq 208, 3) := by decide +kernel
theorem dL_law_561 : decode cL_law 561 = .ok (.iconst 0, 1) := by decide +kernel
theorem dL_law_562 : decode cL_law 562 = .ok (.ireturn, 1) := by decide +kernel
theorem dL_law_563 : decode cL_law 563 = .ok (.aload_n 1, 1) := by decide +kernel
theorem dL_law_564 : decode cL_law 564 = .ok (.aload_n 0, 1) := by decide +kernel
theorem dL_law_565 : decode cL_law 565 = .ok (.iload_n 3, 1) := by decide +kernel
theorem dL_law_566 : decode cL_law 566 = .ok (.iconst 1, 1) := by decide +kernel
theorem dL_law_567 : decode cL_law 567 = .ok (.iadd, 1) := by decide +kernel
theorem dL_law_568 : decode cL_law 568 = .ok (.iaload, 1) := by decide +kernel
theorem dL_law_569 : decode cL_law 569 = .ok (.invokevirtual 80, 3) := by decide +kernel
theorem dL_law_572 : decode cL_law 572 = .ok (.aload_n 2, 1) := by decide +kernel
theorem dL_law_573 : decode cL_law 573 = .ok (.aload_n 0, 1) := by decide +kernel
theorem dL_law_574 : decode cL_law 574 = .ok (.iload_n 3, 1) := by decide +kernel
theorem dL_law_575 : decode cL_law 575 = .ok (.iconst 1, 1) := by decide +kernel
theorem dL_law_576 : decode cL_law 576 = .ok (.iadd, 1) := by decide +kernel
theorem dL_law_577 : decode cL_law 577 = .ok (.iaload, 1) := by decide +kernel
theorem dL_law_578 : decode cL_law 578 = .ok (.invokevirtual 83, 3) := by decide +kernel
theorem dL_law_581 : decode cL_law 581 = .ok (.if_icmp .eq 185, 3) := by decide +kernel
theorem dL_law_584 : decode cL_law 584 = .ok (.iconst 0, 1) := by decide +kernel
theorem dL_law_585 : decode cL_law 585 = .ok (.ireturn, 1) := by decide +kernel
theorem dL_law_586 : decode cL_law 586 = .ok (.aload_n 1, 1) := by decide +kernel
theorem dL_law_587 : decode cL_law 587 = .ok (.invokevirtual 84, 3) := by decide +kernel
theorem dL_law_590 : decode cL_law 590 = .ok (.aload_n 2, 1) := by decide +kernel
theorem dL_law_591 : decode cL_law 591 = .ok (.invokevirtual 87, 3) := by decide +kernel
theorem dL_law_594 : decode cL_law 594 = .ok (.if_icmp .eq 172, 3) := by decide +kernel
theorem dL_law_597 : decode cL_law 597 = .ok (.iconst 0, 1) := by decide +kernel
theorem dL_law_598 : decode cL_law 598 = .ok (.ireturn, 1) := by decide +kernel
theorem dL_law_599 : decode cL_law 599 = .ok (.aload_n 1, 1) := by decide +kernel
theorem dL_law_600 : decode cL_law 600 = .ok (.aload_n 0, 1) := by decide +kernel
theorem dL_law_601 : decode cL_law 601 = .ok (.iload_n 3, 1) := by decide +kernel
theorem dL_law_602 : decode cL_law 602 = .ok (.iconst 1, 1) := by decide +kernel
theorem dL_law_603 : decode cL_law 603 = .ok (.iadd, 1) := by decide +kernel
theorem dL_law_604 : decode cL_law 604 = .ok (.iaload, 1) := by decide +kernel
theorem dL_law_605 : decode cL_law 605 = .ok (.invokevirtual 88, 3) := by decide +kernel
theorem dL_law_608 : decode cL_law 608 = .ok (.aload_n 2, 1) := by decide +kernel
theorem dL_law_609 : decode cL_law 609 = .ok (.aload_n 0, 1) := by decide +kernel
theorem dL_law_610 : decode cL_law 610 = .ok (.iload_n 3, 1) := by decide +kernel
theorem dL_law_611 : decode cL_law 611 = .ok (.iconst 1, 1) := by decide +kernel
theorem dL_law_612 : decode cL_law 612 = .ok (.iadd, 1) := by decide +kernel
theorem dL_law_613 : decode cL_law 613 = .ok (.iaload, 1) := by decide +kernel
theorem dL_law_614 : decode cL_law 614 = .ok (.invokevirtual 91, 3) := by decide +kernel
theorem dL_law_617 : decode cL_law 617 = .ok (.if_icmp .eq 149, 3) := by decide +kernel
theorem dL_law_620 : decode cL_law 620 = .ok (.iconst 0, 1) := by decide +kernel
theorem dL_law_621 : decode cL_law 621 = .ok (.ireturn, 1) := by decide +kernel
theorem dL_law_622 : decode cL_law 622 = .ok (.aload_n 1, 1) := by decide +kernel
theorem dL_law_623 : decode cL_law 623 = .ok (.aload_n 0, 1) := by decide +kernel
theorem dL_law_624 : decode cL_law 624 = .ok (.iload_n 3, 1) := by decide +kernel
theorem dL_law_625 : decode cL_law 625 = .ok (.iconst 1, 1) := by decide +kernel
theorem dL_law_626 : decode cL_law 626 = .ok (.iadd, 1) := by decide +kernel
theorem dL_law_627 : decode cL_law 627 = .ok (.iaload, 1) := by decide +kernel
theorem dL_law_628 : decode cL_law 628 = .ok (.invokevirtual 92, 3) := by decide +kernel
theorem dL_law_631 : decode cL_law 631 = .ok (.aload_n 2, 1) := by decide +kernel
theorem dL_law_632 : decode cL_law 632 = .ok (.aload_n 0, 1) := by decide +kernel
theorem dL_law_633 : decode cL_law 633 = .ok (.iload_n 3, 1) := by decide +kernel
theorem dL_law_634 : decode cL_law 634 = .ok (.iconst 1, 1) := by decide +kernel
theorem dL_law_635 : decode cL_law 635 = .ok (.iadd, 1) := by decide +kernel
theorem dL_law_636 : decode cL_law 636 = .ok (.iaload, 1) := by decide +kernel
theorem dL_law_637 : decode cL_law 637 = .ok (.invokevirtual 95, 3) := by decide +kernel
theorem dL_law_640 : decode cL_law 640 = .ok (.if_icmp .eq 126, 3) := by decide +kernel
theorem dL_law_643 : decode cL_law 643 = .ok (.iconst 0, 1) := by decide +kernel
theorem dL_law_644 : decode cL_law 644 = .ok (.ireturn, 1) := by decide +kernel
theorem dL_law_645 : decode cL_law 645 = .ok (.aload_n 1, 1) := by decide +kernel
theorem dL_law_646 : decode cL_law 646 = .ok (.invokevirtual 96, 3) := by decide +kernel
theorem dL_law_649 : decode cL_law 649 = .ok (.aload_n 2, 1) := by decide +kernel
theorem dL_law_650 : decode cL_law 650 = .ok (.invokevirtual 99, 3) := by decide +kernel
theorem dL_law_653 : decode cL_law 653 = .ok (.if_icmp .eq 113, 3) := by decide +kernel
theorem dL_law_656 : decode cL_law 656 = .ok (.iconst 0, 1) := by decide +kernel
theorem dL_law_657 : decode cL_law 657 = .ok (.ireturn, 1) := by decide +kernel
theorem dL_law_658 : decode cL_law 658 = .ok (.aload_n 1, 1) := by decide +kernel
theorem dL_law_659 : decode cL_law 659 = .ok (.invokevirtual 100, 3) := by decide +kernel
theorem dL_law_662 : decode cL_law 662 = .ok (.aload_n 2, 1) := by decide +kernel
theorem dL_law_663 : decode cL_law 663 = .ok (.invokevirtual 103, 3) := by decide +kernel
theorem dL_law_666 : decode cL_law 666 = .ok (.if_icmp .eq 100, 3) := by decide +kernel
theorem dL_law_669 : decode cL_law 669 = .ok (.iconst 0, 1) := by decide +kernel
theorem dL_law_670 : decode cL_law 670 = .ok (.ireturn, 1) := by decide +kernel
theorem dL_law_671 : decode cL_law 671 = .ok (.aload_n 1, 1) := by decide +kernel
theorem dL_law_672 : decode cL_law 672 = .ok (.aload_n 0, 1) := by decide +kernel
theorem dL_law_673 : decode cL_law 673 = .ok (.iload_n 3, 1) := by decide +kernel
theorem dL_law_674 : decode cL_law 674 = .ok (.iconst 1, 1) := by decide +kernel
theorem dL_law_675 : decode cL_law 675 = .ok (.iadd, 1) := by decide +kernel
theorem dL_law_676 : decode cL_law 676 = .ok (.iaload, 1) := by decide +kernel
theorem dL_law_677 : decode cL_law 677 = .ok (.invokevirtual 104, 3) := by decide +kernel
theorem dL_law_680 : decode cL_law 680 = .ok (.aload_n 2, 1) := by decide +kernel
theorem dL_law_681 : decode cL_law 681 = .ok (.aload_n 0, 1) := by decide +kernel
theorem dL_law_682 : decode cL_law 682 = .ok (.iload_n 3, 1) := by decide +kernel
theorem dL_law_683 : decode cL_law 683 = .ok (.iconst 1, 1) := by decide +kernel
theorem dL_law_684 : decode cL_law 684 = .ok (.iadd, 1) := by decide +kernel
theorem dL_law_685 : decode cL_law 685 = .ok (.iaload, 1) := by decide +kernel
theorem dL_law_686 : decode cL_law 686 = .ok (.invokevirtual 107, 3) := by decide +kernel
theorem dL_law_689 : decode cL_law 689 = .ok (.if_icmp .eq 77, 3) := by decide +kernel
theorem dL_law_692 : decode cL_law 692 = .ok (.iconst 0, 1) := by decide +kernel
theorem dL_law_693 : decode cL_law 693 = .ok (.ireturn, 1) := by decide +kernel
theorem dL_law_694 : decode cL_law 694 = .ok (.aload_n 1, 1) := by decide +kernel
theorem dL_law_695 : decode cL_law 695 = .ok (.aload_n 0, 1) := by decide +kernel
theorem dL_law_696 : decode cL_law 696 = .ok (.iload_n 3, 1) := by decide +kernel
theorem dL_law_697 : decode cL_law 697 = .ok (.iconst 1, 1) := by decide +kernel
theorem dL_law_698 : decode cL_law 698 = .ok (.iadd, 1) := by decide +kernel
theorem dL_law_699 : decode cL_law 699 = .ok (.iaload, 1) := by decide +kernel
theorem dL_law_700 : decode cL_law 700 = .ok (.invokevirtual 108, 3) := by decide +kernel
theorem dL_law_703 : decode cL_law 703 = .ok (.aload_n 2, 1) := by decide +kernel
theorem dL_law_704 : decode cL_law 704 = .ok (.aload_n 0, 1) := by decide +kernel
theorem dL_law_705 : decode cL_law 705 = .ok (.iload_n 3, 1) := by decide +kernel
theorem dL_law_706 : decode cL_law 706 = .ok (.iconst 1, 1) := by decide +kernel
theorem dL_law_707 : decode cL_law 707 = .ok (.iadd, 1) := by decide +kernel
theorem dL_law_708 : decode cL_law 708 = .ok (.iaload, 1) := by decide +kernel
theorem dL_law_709 : decode cL_law 709 = .ok (.invokevirtual 111, 3) := by decide +kernel
theorem dL_law_712 : decode cL_law 712 = .ok (.if_icmp .eq 54, 3) := by decide +kernel
theorem dL_law_715 : decode cL_law 715 = .ok (.iconst 0, 1) := by decide +kernel
theorem dL_law_716 : decode cL_law 716 = .ok (.ireturn, 1) := by decide +kernel
theorem dL_law_717 : decode cL_law 717 = .ok (.aload_n 1, 1) := by decide +kernel
theorem dL_law_718 : decode cL_law 718 = .ok (.invokevirtual 112, 3) := by decide +kernel
theorem dL_law_721 : decode cL_law 721 = .ok (.aload_n 2, 1) := by decide +kernel
theorem dL_law_722 : decode cL_law 722 = .ok (.invokevirtual 115, 3) := by decide +kernel
theorem dL_law_725 : decode cL_law 725 = .ok (.if_icmp .eq 41, 3) := by decide +kernel
theorem dL_law_728 : decode cL_law 728 = .ok (.iconst 0, 1) := by decide +kernel
theorem dL_law_729 : decode cL_law 729 = .ok (.ireturn, 1) := by decide +kernel
theorem dL_law_730 : decode cL_law 730 = .ok (.aload_n 1, 1) := by decide +kernel
theorem dL_law_731 : decode cL_law 731 = .ok (.invokevirtual 116, 3) := by decide +kernel
theorem dL_law_734 : decode cL_law 734 = .ok (.aload_n 2, 1) := by decide +kernel
theorem dL_law_735 : decode cL_law 735 = .ok (.invokevirtual 119, 3) := by decide +kernel
theorem dL_law_738 : decode cL_law 738 = .ok (.if_icmp .eq 28, 3) := by decide +kernel
theorem dL_law_741 : decode cL_law 741 = .ok (.iconst 0, 1) := by decide +kernel
theorem dL_law_742 : decode cL_law 742 = .ok (.ireturn, 1) := by decide +kernel
theorem dL_law_743 : decode cL_law 743 = .ok (.aload_n 1, 1) := by decide +kernel
theorem dL_law_744 : decode cL_law 744 = .ok (.aload_n 0, 1) := by decide +kernel
theorem dL_law_745 : decode cL_law 745 = .ok (.iload_n 3, 1) := by decide +kernel
theorem dL_law_746 : decode cL_law 746 = .ok (.iconst 1, 1) := by decide +kernel
theorem dL_law_747 : decode cL_law 747 = .ok (.iadd, 1) := by decide +kernel
theorem dL_law_748 : decode cL_law 748 = .ok (.iaload, 1) := by decide +kernel
theorem dL_law_749 : decode cL_law 749 = .ok (.invokevirtual 120, 3) := by decide +kernel
theorem dL_law_752 : decode cL_law 752 = .ok (.aload_n 2, 1) := by decide +kernel
theorem dL_law_753 : decode cL_law 753 = .ok (.aload_n 0, 1) := by decide +kernel
theorem dL_law_754 : decode cL_law 754 = .ok (.iload_n 3, 1) := by decide +kernel
theorem dL_law_755 : decode cL_law 755 = .ok (.iconst 1, 1) := by decide +kernel
theorem dL_law_756 : decode cL_law 756 = .ok (.iadd, 1) := by decide +kernel
theorem dL_law_757 : decode cL_law 757 = .ok (.iaload, 1) := by decide +kernel
theorem dL_law_758 : decode cL_law 758 = .ok (.invokevirtual 123, 3) := by decide +kernel
theorem dL_law_761 : decode cL_law 761 = .ok (.if_icmp .eq 5, 3) := by decide +kernel
theorem dL_law_764 : decode cL_law 764 = .ok (.iconst 0, 1) := by decide +kernel
theorem dL_law_765 : decode cL_law 765 = .ok (.ireturn, 1) := by decide +kernel
theorem dL_law_766 : decode cL_law 766 = .ok (.iinc 3 4, 3) := by decide +kernel
theorem dL_law_769 : decode cL_law 769 = .ok (.goto (-751), 3) := by decide +kernel
theorem dL_law_772 : decode cL_law 772 = .ok (.iconst 1, 1) := by decide +kernel
theorem dL_law_773 : decode cL_law 773 = .ok (.ireturn, 1) := by decide +kernel
