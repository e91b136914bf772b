theorem d_Q_kill_0 : decode b_Q_kill 0 = .ok (.aload_n 0, 1) := by decide +kernel
theorem d_Q_kill_1 : decode b_Q_kill 1 = .ok (.iload_n 1, 1) := by decide +kernel
theorem d_Q_kill_2 : decode b_Q_kill 2 = .ok (.invokevirtual 105, 3) := by decide +kernel
theorem d_Q_kill_5 : decode b_Q_kill 5 = .ok (.ifCond .ne 5, 3) := by decide +kernel
theorem d_Q_kill_8 : decode b_Q_kill 8 = .ok (.iconst 0, 1) := by decide +kernel
theorem d_Q_kill_9 : decode b_Q_kill 9 = .ok (.ireturn, 1) := by decide +kernel
theorem d_Q_kill_10 : decode b_Q_kill 10 = .ok (.aload_n 0, 1) := by decide +kernel
theorem d_Q_kill_11 : decode b_Q_kill 11 = .ok (.iload_n 1, 1) := by decide +kernel
theorem d_Q_kill_12 : decode b_Q_kill 12 = .ok (.bipush (-9), 2) := by decide +kernel
theorem d_Q_kill_14 : decode b_Q_kill 14 = .ok (.invokevirtual 115, 3) := by decide +kernel
theorem d_Q_kill_17 : decode b_Q_kill 17 = .ok (.iconst 1, 1) := by decide +kernel
theorem d_Q_kill_18 : decode b_Q_kill 18 = .ok (.ireturn, 1) := by decide +kernel
theorem d_Q_ends_0 : decode b_Q_ends 0 = .ok (.bipush 8, 2) := by decide +kernel
theorem d_Q_ends_2 : decode b_Q_ends 2 = .ok (.iload_n 1, 1) := by decide +kernel
theorem d_Q_ends_3 : decode b_Q_ends 3 = .ok (.imul, 1) := by decide +kernel
theorem d_Q_ends_4 : decode b_Q_ends 4 = .ok (.istore_n 3, 1) := by decide +kernel
theorem d_Q_ends_5 : decode b_Q_ends 5 = .ok (.iload_n 3, 1) := by decide +kernel
theorem d_Q_ends_6 : decode b_Q_ends 6 = .ok (.bipush 8, 2) := by decide +kernel
theorem d_Q_ends_8 : decode b_Q_ends 8 = .ok (.iload_n 1, 1) := by decide +kernel
theorem d_Q_ends_9 : decode b_Q_ends 9 = .ok (.imul, 1) := by decide +kernel
theorem d_Q_ends_10 : decode b_Q_ends 10 = .ok (.bipush 8, 2) := by decide +kernel
theorem d_Q_ends_12 : decode b_Q_ends 12 = .ok (.iadd, 1) := by decide +kernel
theorem d_Q_ends_13 : decode b_Q_ends 13 = .ok (.if_icmp .ge 14, 3) := by decide +kernel
theorem d_Q_ends_16 : decode b_Q_ends 16 = .ok (.aload_n 0, 1) := by decide +kernel
theorem d_Q_ends_17 : decode b_Q_ends 17 = .ok (.iload_n 3, 1) := by decide +kernel
theorem d_Q_ends_18 : decode b_Q_ends 18 = .ok (.invokevirtual 112, 3) := by decide +kernel
theorem d_Q_ends_21 : decode b_Q_ends 21 = .ok (.iinc 3 1, 3) := by decide +kernel
theorem d_Q_ends_24 : decode b_Q_ends 24 = .ok (.goto (-19), 3) := by decide +kernel
theorem d_Q_ends_27 : decode b_Q_ends 27 = .ok (.iconst 0, 1) := by decide +kernel
theorem d_Q_ends_28 : decode b_Q_ends 28 = .ok (.istore_n 3, 1) := by decide +kernel
theorem d_Q_ends_29 : decode b_Q_ends 29 = .ok (.iload_n 3, 1) := by decide +kernel
theorem d_Q_ends_30 : decode b_Q_ends 30 = .ok (.iconst 4, 1) := by decide +kernel
theorem d_Q_ends_31 : decode b_Q_ends 31 = .ok (.if_icmp .ge 56, 3) := by decide +kernel
theorem d_Q_ends_34 : decode b_Q_ends 34 = .ok (.aload_n 0, 1) := by decide +kernel
theorem d_Q_ends_35 : decode b_Q_ends 35 = .ok (.getfield 7, 3) := by decide +kernel
theorem d_Q_ends_38 : decode b_Q_ends 38 = .ok (.iload_n 3, 1) := by decide +kernel
theorem d_Q_ends_39 : decode b_Q_ends 39 = .ok (.iaload, 1) := by decide +kernel
theorem d_Q_ends_40 : decode b_Q_ends 40 = .ok (.ifCond .eq 41, 3) := by decide +kernel
theorem d_Q_ends_43 : decode b_Q_ends 43 = .ok (.aload_n 0, 1) := by decide +kernel
theorem d_Q_ends_44 : decode b_Q_ends 44 = .ok (.getfield 16, 3) := by decide +kernel
theorem d_Q_ends_47 : decode b_Q_ends 47 = .ok (.iload_n 3, 1) := by decide +kernel
theorem d_Q_ends_48 : decode b_Q_ends 48 = .ok (.iaload, 1) := by decide +kernel
theorem d_Q_ends_49 : decode b_Q_ends 49 = .ok (.iload_n 1, 1) := by decide +kernel
theorem d_Q_ends_50 : decode b_Q_ends 50 = .ok (.if_icmp .eq 6, 3) := by decide +kernel
theorem d_Q_ends_53 : decode b_Q_ends 53 = .ok (.goto 28, 3) := by decide +kernel
theorem d_Q_ends_56 : decode b_Q_ends 56 = .ok (.aload_n 0, 1) := by decide +kernel
theorem d_Q_ends_57 : decode b_Q_ends 57 = .ok (.getfield 16, 3) := by decide +kernel
theorem d_Q_ends_60 : decode b_Q_ends 60 = .ok (.iload_n 3, 1) := by decide +kernel
theorem d_Q_ends_61 : decode b_Q_ends 61 = .ok (.bipush (-2), 2) := by decide +kernel
theorem d_Q_ends_63 : decode b_Q_ends 63 = .ok (.iastore, 1) := by decide +kernel
theorem d_Q_ends_64 : decode b_Q_ends 64 = .ok (.aload_n 0, 1) := by decide +kernel
theorem d_Q_ends_65 : decode b_Q_ends 65 = .ok (.getfield 7, 3) := by decide +kernel
theorem d_Q_ends_68 : decode b_Q_ends 68 = .ok (.iload_n 3, 1) := by decide +kernel
theorem d_Q_ends_69 : decode b_Q_ends 69 = .ok (.iaload, 1) := by decide +kernel
theorem d_Q_ends_70 : decode b_Q_ends 70 = .ok (.iconst 4, 1) := by decide +kernel
theorem d_Q_ends_71 : decode b_Q_ends 71 = .ok (.if_icmp .ne 10, 3) := by decide +kernel
theorem d_Q_ends_74 : decode b_Q_ends 74 = .ok (.aload_n 0, 1) := by decide +kernel
theorem d_Q_ends_75 : decode b_Q_ends 75 = .ok (.getfield 7, 3) := by decide +kernel
theorem d_Q_ends_78 : decode b_Q_ends 78 = .ok (.iload_n 3, 1) := by decide +kernel
theorem d_Q_ends_79 : decode b_Q_ends 79 = .ok (.iconst 0, 1) := by decide +kernel
theorem d_Q_ends_80 : decode b_Q_ends 80 = .ok (.iastore, 1) := by decide +kernel
theorem d_Q_ends_81 : decode b_Q_ends 81 = .ok (.iinc 3 1, 3) := by decide +kernel
theorem d_Q_ends_84 : decode b_Q_ends 84 = .ok (.goto (-55), 3) := by decide +kernel
theorem d_Q_ends_87 : decode b_Q_ends 87 = .ok (.aload_n 0, 1) := by decide +kernel
theorem d_Q_ends_88 : decode b_Q_ends 88 = .ok (.getfield 7, 3) := by decide +kernel
theorem d_Q_ends_91 : decode b_Q_ends 91 = .ok (.iload_n 1, 1) := by decide +kernel
theorem d_Q_ends_92 : decode b_Q_ends 92 = .ok (.iconst 4, 1) := by decide +kernel
theorem d_Q_ends_93 : decode b_Q_ends 93 = .ok (.iastore, 1) := by decide +kernel
theorem d_Q_ends_94 : decode b_Q_ends 94 = .ok (.aload_n 0, 1) := by decide +kernel
theorem d_Q_ends_95 : decode b_Q_ends 95 = .ok (.getfield 19, 3) := by decide +kernel
theorem d_Q_ends_98 : decode b_Q_ends 98 = .ok (.iload_n 1, 1) := by decide +kernel
theorem d_Q_ends_99 : decode b_Q_ends 99 = .ok (.iload_n 2, 1) := by decide +kernel
theorem d_Q_ends_100 : decode b_Q_ends 100 = .ok (.iastore, 1) := by decide +kernel
theorem d_Q_ends_101 : decode b_Q_ends 101 = .ok (.aload_n 0, 1) := by decide +kernel
theorem d_Q_ends_102 : decode b_Q_ends 102 = .ok (.getfield 16, 3) := by decide +kernel
theorem d_Q_ends_105 : decode b_Q_ends 105 = .ok (.iload_n 1, 1) := by decide +kernel
theorem d_Q_ends_106 : decode b_Q_ends 106 = .ok (.iaload, 1) := by decide +kernel
theorem d_Q_ends_107 : decode b_Q_ends 107 = .ok (.ifCond .ge 13, 3) := by decide +kernel
theorem d_Q_ends_110 : decode b_Q_ends 110 = .ok (.aload_n 0, 1) := by decide +kernel
theorem d_Q_ends_111 : decode b_Q_ends 111 = .ok (.getfield 7, 3) := by decide +kernel
theorem d_Q_ends_114 : decode b_Q_ends 114 = .ok (.iload_n 1, 1) := by decide +kernel
theorem d_Q_ends_115 : decode b_Q_ends 115 = .ok (.iconst 0, 1) := by decide +kernel
theorem d_Q_ends_116 : decode b_Q_ends 116 = .ok (.iastore, 1) := by decide +kernel
theorem d_Q_ends_117 : decode b_Q_ends 117 = .ok (.goto 30, 3) := by decide +kernel
theorem d_Q_ends_120 : decode b_Q_ends 120 = .ok (.aload_n 0, 1) := by decide +kernel
theorem d_Q_ends_121 : decode b_Q_ends 121 = .ok (.getfield 7, 3) := by decide +kernel
theorem d_Q_ends_124 : decode b_Q_ends 124 = .ok (.aload_n 0, 1) := by decide +kernel
theorem d_Q_ends_125 : decode b_Q_ends 125 = .ok (.getfield 16, 3) := by decide +kernel
theorem d_Q_ends_128 : decode b_Q_ends 128 = .ok (.iload_n 1, 1) := by decide +kernel
theorem d_Q_ends_129 : decode b_Q_ends 129 = .ok (.iaload, 1) := by decide +kernel
theorem d_Q_ends_130 : decode b_Q_ends 130 = .ok (.iaload, 1) := by decide +kernel
theorem d_Q_ends_131 : decode b_Q_ends 131 = .ok (.iconst 3, 1) := by decide +kernel
theorem d_Q_ends_132 : decode b_Q_ends 132 = .ok (.if_icmp .ne 15, 3) := by decide +kernel
theorem d_Q_ends_135 : decode b_Q_ends 135 = .ok (.aload_n 0, 1) := by decide +kernel
theorem d_Q_ends_136 : decode b_Q_ends 136 = .ok (.getfield 7, 3) := by decide +kernel
theorem d_Q_ends_139 : decode b_Q_ends 139 = .ok (.aload_n 0, 1) := by decide +kernel
theorem d_Q_ends_140 : decode b_Q_ends 140 = .ok (.getfield 16, 3) := by decide +kernel
theorem d_Q_ends_143 : decode b_Q_ends 143 = .ok (.iload_n 1, 1) := by decide +kernel
theorem d_Q_ends_144 : decode b_Q_ends 144 = .ok (.iaload, 1) := by decide +kernel
theorem d_Q_ends_145 : decode b_Q_ends 145 = .ok (.iconst 1, 1) := by decide +kernel
theorem d_Q_ends_146 : decode b_Q_ends 146 = .ok (.iastore, 1) := by decide +kernel
theorem d_Q_ends_147 : decode b_Q_ends 147 = .ok (.return_, 1) := by decide +kernel
theorem d_Q_let_0 : decode b_Q_let 0 = .ok (.aload_n 0, 1) := by decide +kernel
theorem d_Q_let_1 : decode b_Q_let 1 = .ok (.getfield 34, 3) := by decide +kernel
theorem d_Q_let_4 : decode b_Q_let 4 = .ok (.iload_n 1, 1) := by decide +kernel
theorem d_Q_let_5 : decode b_Q_let 5 = .ok (.iaload, 1) := by decide +kernel
theorem d_Q_let_6 : decode b_Q_let 6 = .ok (.istore_n 2, 1) := by decide +kernel
theorem d_Q_let_7 : decode b_Q_let 7 = .ok (.aload_n 0, 1) := by decide +kernel
theorem d_Q_let_8 : decode b_Q_let 8 = .ok (.getfield 34, 3) := by decide +kernel
theorem d_Q_let_11 : decode b_Q_let 11 = .ok (.iload_n 1, 1) := by decide +kernel
theorem d_Q_let_12 : decode b_Q_let 12 = .ok (.iconst (-1), 1) := by decide +kernel
theorem d_Q_let_13 : decode b_Q_let 13 = .ok (.iastore, 1) := by decide +kernel
theorem d_Q_let_14 : decode b_Q_let 14 = .ok (.iload_n 2, 1) := by decide +kernel
theorem d_Q_let_15 : decode b_Q_let 15 = .ok (.ifCond .lt 18, 3) := by decide +kernel
theorem d_Q_let_18 : decode b_Q_let 18 = .ok (.aload_n 0, 1) := by decide +kernel
theorem d_Q_let_19 : decode b_Q_let 19 = .ok (.iload_n 2, 1) := by decide +kernel
theorem d_Q_let_20 : decode b_Q_let 20 = .ok (.invokevirtual 66, 3) := by decide +kernel
theorem d_Q_let_23 : decode b_Q_let 23 = .ok (.ifCond .ne 10, 3) := by decide +kernel
theorem d_Q_let_26 : decode b_Q_let 26 = .ok (.aload_n 0, 1) := by decide +kernel
theorem d_Q_let_27 : decode b_Q_let 27 = .ok (.getfield 37, 3) := by decide +kernel
theorem d_Q_let_30 : decode b_Q_let 30 = .ok (.iload_n 2, 1) := by decide +kernel
theorem d_Q_let_31 : decode b_Q_let 31 = .ok (.iconst 0, 1) := by decide +kernel
theorem d_Q_let_32 : decode b_Q_let 32 = .ok (.bastore, 1) := by decide +kernel
theorem d_Q_let_33 : decode b_Q_let 33 = .ok (.return_, 1) := by decide +kernel
theorem d_Q_run_0 : decode b_Q_run 0 = .ok (.iload_n 1, 1) := by decide +kernel
theorem d_Q_run_1 : decode b_Q_run 1 = .ok (.iconst 1, 1) := by decide +kernel
theorem d_Q_run_2 : decode b_Q_run 2 = .ok (.if_icmp .lt 9, 3) := by decide +kernel
theorem d_Q_run_5 : decode b_Q_run 5 = .ok (.iload_n 1, 1) := by decide +kernel
theorem d_Q_run_6 : decode b_Q_run 6 = .ok (.bipush 40, 2) := by decide +kernel
theorem d_Q_run_8 : decode b_Q_run 8 = .ok (.if_icmp .le 5, 3) := by decide +kernel
theorem d_Q_run_11 : decode b_Q_run 11 = .ok (.iconst (-1), 1) := by decide +kernel
theorem d_Q_run_12 : decode b_Q_run 12 = .ok (.ireturn, 1) := by decide +kernel
theorem d_Q_run_13 : decode b_Q_run 13 = .ok (.iconst 0, 1) := by decide +kernel
theorem d_Q_run_14 : decode b_Q_run 14 = .ok (.istore_n 2, 1) := by decide +kernel
theorem d_Q_run_15 : decode b_Q_run 15 = .ok (.iconst 0, 1) := by decide +kernel
theorem d_Q_run_16 : decode b_Q_run 16 = .ok (.istore_n 3, 1) := by decide +kernel
theorem d_Q_run_17 : decode b_Q_run 17 = .ok (.iload_n 3, 1) := by decide +kernel
theorem d_Q_run_18 : decode b_Q_run 18 = .ok (.iload_n 1, 1) := by decide +kernel
theorem d_Q_run_19 : decode b_Q_run 19 = .ok (.if_icmp .ge 19, 3) := by decide +kernel
theorem d_Q_run_22 : decode b_Q_run 22 = .ok (.aload_n 0, 1) := by decide +kernel
theorem d_Q_run_23 : decode b_Q_run 23 = .ok (.invokevirtual 119, 3) := by decide +kernel
theorem d_Q_run_26 : decode b_Q_run 26 = .ok (.ifCond .eq 6, 3) := by decide +kernel
theorem d_Q_run_29 : decode b_Q_run 29 = .ok (.iinc 2 1, 3) := by decide +kernel
theorem d_Q_run_32 : decode b_Q_run 32 = .ok (.iinc 3 1, 3) := by decide +kernel
theorem d_Q_run_35 : decode b_Q_run 35 = .ok (.goto (-18), 3) := by decide +kernel
theorem d_Q_run_38 : decode b_Q_run 38 = .ok (.iload_n 2, 1) := by decide +kernel
theorem d_Q_run_39 : decode b_Q_run 39 = .ok (.ireturn, 1) := by decide +kernel
theorem d_Q_tick_0 : decode b_Q_tick 0 = .ok (.aload_n 0, 1) := by decide +kernel
theorem d_Q_tick_1 : decode b_Q_tick 1 = .ok (.dup, 1) := by decide +kernel
theorem d_Q_tick_2 : decode b_Q_tick 2 = .ok (.getfield 123, 3) := by decide +kernel
theorem d_Q_tick_5 : decode b_Q_tick 5 = .ok (.iconst 1, 1) := by decide +kernel
theorem d_Q_tick_6 : decode b_Q_tick 6 = .ok (.iadd, 1) := by decide +kernel
theorem d_Q_tick_7 : decode b_Q_tick 7 = .ok (.putfield 123, 3) := by decide +kernel
theorem d_Q_tick_10 : decode b_Q_tick 10 = .ok (.iconst 0, 1) := by decide +kernel
theorem d_Q_tick_11 : decode b_Q_tick 11 = .ok (.istore_n 1, 1) := by decide +kernel
theorem d_Q_tick_12 : decode b_Q_tick 12 = .ok (.iload_n 1, 1) := by decide +kernel
theorem d_Q_tick_13 : decode b_Q_tick 13 = .ok (.iconst 4, 1) := by decide +kernel
theorem d_Q_tick_14 : decode b_Q_tick 14 = .ok (.if_icmp .ge 48, 3) := by decide +kernel
theorem d_Q_tick_17 : decode b_Q_tick 17 = .ok (.aload_n 0, 1) := by decide +kernel
theorem d_Q_tick_18 : decode b_Q_tick 18 = .ok (.getfield 7, 3) := by decide +kernel
theorem d_Q_tick_21 : decode b_Q_tick 21 = .ok (.iload_n 1, 1) := by decide +kernel
theorem d_Q_tick_22 : decode b_Q_tick 22 = .ok (.iaload, 1) := by decide +kernel
theorem d_Q_tick_23 : decode b_Q_tick 23 = .ok (.iconst 2, 1) := by decide +kernel
theorem d_Q_tick_24 : decode b_Q_tick 24 = .ok (.if_icmp .eq 6, 3) := by decide +kernel
theorem d_Q_tick_27 : decode b_Q_tick 27 = .ok (.goto 29, 3) := by decide +kernel
theorem d_Q_tick_30 : decode b_Q_tick 30 = .ok (.aload_n 0, 1) := by decide +kernel
theorem d_Q_tick_31 : decode b_Q_tick 31 = .ok (.getfield 22, 3) := by decide +kernel
theorem d_Q_tick_34 : decode b_Q_tick 34 = .ok (.iload_n 1, 1) := by decide +kernel
theorem d_Q_tick_35 : decode b_Q_tick 35 = .ok (.dup2, 1) := by decide +kernel
theorem d_Q_tick_36 : decode b_Q_tick 36 = .ok (.iaload, 1) := by decide +kernel
theorem d_Q_tick_37 : decode b_Q_tick 37 = .ok (.iconst 1, 1) := by decide +kernel
theorem d_Q_tick_38 : decode b_Q_tick 38 = .ok (.isub, 1) := by decide +kernel
theorem d_Q_tick_39 : decode b_Q_tick 39 = .ok (.iastore, 1) := by decide +kernel
theorem d_Q_tick_40 : decode b_Q_tick 40 = .ok (.aload_n 0, 1) := by decide +kernel
theorem d_Q_tick_41 : decode b_Q_tick 41 = .ok (.getfield 22, 3) := by decide +kernel
theorem d_Q_tick_44 : decode b_Q_tick 44 = .ok (.iload_n 1, 1) := by decide +kernel
theorem d_Q_tick_45 : decode b_Q_tick 45 = .ok (.iaload, 1) := by decide +kernel
theorem d_Q_tick_46 : decode b_Q_tick 46 = .ok (.ifCond .ne 10, 3) := by decide +kernel
theorem d_Q_tick_49 : decode b_Q_tick 49 = .ok (.aload_n 0, 1) := by decide +kernel
theorem d_Q_tick_50 : decode b_Q_tick 50 = .ok (.getfield 7, 3) := by decide +kernel
theorem d_Q_tick_53 : decode b_Q_tick 53 = .ok (.iload_n 1, 1) := by decide +kernel
theorem d_Q_tick_54 : decode b_Q_tick 54 = .ok (.iconst 1, 1) := by decide +kernel
theorem d_Q_tick_55 : decode b_Q_tick 55 = .ok (.iastore, 1) := by decide +kernel
theorem d_Q_tick_56 : decode b_Q_tick 56 = .ok (.iinc 1 1, 3) := by decide +kernel
theorem d_Q_tick_59 : decode b_Q_tick 59 = .ok (.goto (-47), 3) := by decide +kernel
theorem d_Q_tick_62 : decode b_Q_tick 62 = .ok (.aload_n 0, 1) := by decide +kernel
theorem d_Q_tick_63 : decode b_Q_tick 63 = .ok (.getfield 7, 3) := by decide +kernel
theorem d_Q_tick_66 : decode b_Q_tick 66 = .ok (.aload_n 0, 1) := by decide +kernel
theorem d_Q_tick_67 : decode b_Q_tick 67 = .ok (.getfield 62, 3) := by decide +kernel
theorem d_Q_tick_70 : decode b_Q_tick 70 = .ok (.iaload, 1) := by decide +kernel
theorem d_Q_tick_71 : decode b_Q_tick 71 = .ok (.iconst 1, 1) := by decide +kernel
theorem d_Q_tick_72 : decode b_Q_tick 72 = .ok (.if_icmp .ne 18, 3) := by decide +kernel
theorem d_Q_tick_75 : decode b_Q_tick 75 = .ok (.aload_n 0, 1) := by decide +kernel
theorem d_Q_tick_76 : decode b_Q_tick 76 = .ok (.getfield 126, 3) := by decide +kernel
theorem d_Q_tick_79 : decode b_Q_tick 79 = .ok (.ifCond .ne 11, 3) := by decide +kernel
theorem d_Q_tick_82 : decode b_Q_tick 82 = .ok (.aload_n 0, 1) := by decide +kernel
theorem d_Q_tick_83 : decode b_Q_tick 83 = .ok (.getfield 130, 3) := by decide +kernel
theorem d_Q_tick_86 : decode b_Q_tick 86 = .ok (.iconst 4, 1) := by decide +kernel
theorem d_Q_tick_87 : decode b_Q_tick 87 = .ok (.if_icmp .ne 75, 3) := by decide +kernel
theorem d_Q_tick_90 : decode b_Q_tick 90 = .ok (.iconst (-1), 1) := by decide +kernel
theorem d_Q_tick_91 : decode b_Q_tick 91 = .ok (.istore_n 1, 1) := by decide +kernel
theorem d_Q_tick_92 : decode b_Q_tick 92 = .ok (.iconst 4, 1) := by decide +kernel
theorem d_Q_tick_93 : decode b_Q_tick 93 = .ok (.istore_n 2, 1) := by decide +kernel
theorem d_Q_tick_94 : decode b_Q_tick 94 = .ok (.iload_n 2, 1) := by decide +kernel
theorem d_Q_tick_95 : decode b_Q_tick 95 = .ok (.ifCond .le 35, 3) := by decide +kernel
theorem d_Q_tick_98 : decode b_Q_tick 98 = .ok (.aload_n 0, 1) := by decide +kernel
theorem d_Q_tick_99 : decode b_Q_tick 99 = .ok (.getfield 7, 3) := by decide +kernel
theorem d_Q_tick_102 : decode b_Q_tick 102 = .ok (.aload_n 0, 1) := by decide +kernel
theorem d_Q_tick_103 : decode b_Q_tick 103 = .ok (.getfield 62, 3) := by decide +kernel
theorem d_Q_tick_106 : decode b_Q_tick 106 = .ok (.iload_n 2, 1) := by decide +kernel
theorem d_Q_tick_107 : decode b_Q_tick 107 = .ok (.iadd, 1) := by decide +kernel
theorem d_Q_tick_108 : decode b_Q_tick 108 = .ok (.iconst 4, 1) := by decide +kernel
theorem d_Q_tick_109 : decode b_Q_tick 109 = .ok (.irem, 1) := by decide +kernel
theorem d_Q_tick_110 : decode b_Q_tick 110 = .ok (.iaload, 1) := by decide +kernel
theorem d_Q_tick_111 : decode b_Q_tick 111 = .ok (.iconst 1, 1) := by decide +kernel
theorem d_Q_tick_112 : decode b_Q_tick 112 = .ok (.if_icmp .ne 12, 3) := by decide +kernel
theorem d_Q_tick_115 : decode b_Q_tick 115 = .ok (.aload_n 0, 1) := by decide +kernel
theorem d_Q_tick_116 : decode b_Q_tick 116 = .ok (.getfield 62, 3) := by decide +kernel
theorem d_Q_tick_119 : decode b_Q_tick 119 = .ok (.iload_n 2, 1) := by decide +kernel
theorem d_Q_tick_120 : decode b_Q_tick 120 = .ok (.iadd, 1) := by decide +kernel
theorem d_Q_tick_121 : decode b_Q_tick 121 = .ok (.iconst 4, 1) := by decide +kernel
theorem d_Q_tick_122 : decode b_Q_tick 122 = .ok (.irem, 1) := by decide +kernel
theorem d_Q_tick_123 : decode b_Q_tick 123 = .ok (.istore_n 1, 1) := by decide +kernel
theorem d_Q_tick_124 : decode b_Q_tick 124 = .ok (.iinc 2 (-1), 3) := by decide +kernel
theorem d_Q_tick_127 : decode b_Q_tick 127 = .ok (.goto (-33), 3) := by decide +kernel
theorem d_Q_tick_130 : decode b_Q_tick 130 = .ok (.iload_n 1, 1) := by decide +kernel
theorem d_Q_tick_131 : decode b_Q_tick 131 = .ok (.ifCond .ge 16, 3) := by decide +kernel
theorem d_Q_tick_134 : decode b_Q_tick 134 = .ok (.aload_n 0, 1) := by decide +kernel
theorem d_Q_tick_135 : decode b_Q_tick 135 = .ok (.getfield 59, 3) := by decide +kernel
theorem d_Q_tick_138 : decode b_Q_tick 138 = .ok (.bipush 11, 2) := by decide +kernel
theorem d_Q_tick_140 : decode b_Q_tick 140 = .ok (.dup2, 1) := by decide +kernel
theorem d_Q_tick_141 : decode b_Q_tick 141 = .ok (.iaload, 1) := by decide +kernel
theorem d_Q_tick_142 : decode b_Q_tick 142 = .ok (.iconst 1, 1) := by decide +kernel
theorem d_Q_tick_143 : decode b_Q_tick 143 = .ok (.iadd, 1) := by decide +kernel
theorem d_Q_tick_144 : decode b_Q_tick 144 = .ok (.iastore, 1) := by decide +kernel
theorem d_Q_tick_145 : decode b_Q_tick 145 = .ok (.iconst 0, 1) := by decide +kernel
theorem d_Q_tick_146 : decode b_Q_tick 146 = .ok (.ireturn, 1) := by decide +kernel
theorem d_Q_tick_147 : decode b_Q_tick 147 = .ok (.aload_n 0, 1) := by decide +kernel
theorem d_Q_tick_148 : decode b_Q_tick 148 = .ok (.iload_n 1, 1) := by decide +kernel
theorem d_Q_tick_149 : decode b_Q_tick 149 = .ok (.putfield 62, 3) := by decide +kernel
theorem d_Q_tick_152 : decode b_Q_tick 152 = .ok (.aload_n 0, 1) := by decide +kernel
theorem d_Q_tick_153 : decode b_Q_tick 153 = .ok (.iconst 0, 1) := by decide +kernel
theorem d_Q_tick_154 : decode b_Q_tick 154 = .ok (.putfield 130, 3) := by decide +kernel
theorem d_Q_tick_157 : decode b_Q_tick 157 = .ok (.aload_n 0, 1) := by decide +kernel
theorem d_Q_tick_158 : decode b_Q_tick 158 = .ok (.iconst 0, 1) := by decide +kernel
theorem d_Q_tick_159 : decode b_Q_tick 159 = .ok (.putfield 126, 3) := by decide +kernel
theorem d_Q_tick_162 : decode b_Q_tick 162 = .ok (.aload_n 0, 1) := by decide +kernel
theorem d_Q_tick_163 : decode b_Q_tick 163 = .ok (.dup, 1) := by decide +kernel
theorem d_Q_tick_164 : decode b_Q_tick 164 = .ok (.getfield 130, 3) := by decide +kernel
theorem d_Q_tick_167 : decode b_Q_tick 167 = .ok (.iconst 1, 1) := by decide +kernel
theorem d_Q_tick_168 : decode b_Q_tick 168 = .ok (.iadd, 1) := by decide +kernel
theorem d_Q_tick_169 : decode b_Q_tick 169 = .ok (.putfield 130, 3) := by decide +kernel
theorem d_Q_tick_172 : decode b_Q_tick 172 = .ok (.aload_n 0, 1) := by decide +kernel
theorem d_Q_tick_173 : decode b_Q_tick 173 = .ok (.getfield 28, 3) := by decide +kernel
theorem d_Q_tick_176 : decode b_Q_tick 176 = .ok (.aload_n 0, 1) := by decide +kernel
theorem d_Q_tick_177 : decode b_Q_tick 177 = .ok (.getfield 62, 3) := by decide +kernel
theorem d_Q_tick_180 : decode b_Q_tick 180 = .ok (.dup2, 1) := by decide +kernel
theorem d_Q_tick_181 : decode b_Q_tick 181 = .ok (.iaload, 1) := by decide +kernel
theorem d_Q_tick_182 : decode b_Q_tick 182 = .ok (.iconst 1, 1) := by decide +kernel
theorem d_Q_tick_183 : decode b_Q_tick 183 = .ok (.iadd, 1) := by decide +kernel
theorem d_Q_tick_184 : decode b_Q_tick 184 = .ok (.iastore, 1) := by decide +kernel
theorem d_Q_tick_185 : decode b_Q_tick 185 = .ok (.aload_n 0, 1) := by decide +kernel
theorem d_Q_tick_186 : decode b_Q_tick 186 = .ok (.aload_n 0, 1) := by decide +kernel
theorem d_Q_tick_187 : decode b_Q_tick 187 = .ok (.getfield 62, 3) := by decide +kernel
theorem d_Q_tick_190 : decode b_Q_tick 190 = .ok (.invokevirtual 133, 3) := by decide +kernel
theorem d_Q_tick_193 : decode b_Q_tick 193 = .ok (.ifCond .ne 24, 3) := by decide +kernel
theorem d_Q_tick_196 : decode b_Q_tick 196 = .ok (.aload_n 0, 1) := by decide +kernel
theorem d_Q_tick_197 : decode b_Q_tick 197 = .ok (.getfield 59, 3) := by decide +kernel
theorem d_Q_tick_200 : decode b_Q_tick 200 = .ok (.bipush 13, 2) := by decide +kernel
theorem d_Q_tick_202 : decode b_Q_tick 202 = .ok (.dup2, 1) := by decide +kernel
theorem d_Q_tick_203 : decode b_Q_tick 203 = .ok (.iaload, 1) := by decide +kernel
theorem d_Q_tick_204 : decode b_Q_tick 204 = .ok (.iconst 1, 1) := by decide +kernel
theorem d_Q_tick_205 : decode b_Q_tick 205 = .ok (.iadd, 1) := by decide +kernel
theorem d_Q_tick_206 : decode b_Q_tick 206 = .ok (.iastore, 1) := by decide +kernel
theorem d_Q_tick_207 : decode b_Q_tick 207 = .ok (.aload_n 0, 1) := by decide +kernel
theorem d_Q_tick_208 : decode b_Q_tick 208 = .ok (.aload_n 0, 1) := by decide +kernel
theorem d_Q_tick_209 : decode b_Q_tick 209 = .ok (.getfield 62, 3) := by decide +kernel
theorem d_Q_tick_212 : decode b_Q_tick 212 = .ok (.bipush (-99), 2) := by decide +kernel
theorem d_Q_tick_214 : decode b_Q_tick 214 = .ok (.invokevirtual 115, 3) := by decide +kernel
theorem d_Q_tick_217 : decode b_Q_tick 217 = .ok (.iconst 1, 1) := by decide +kernel
theorem d_Q_tick_218 : decode b_Q_tick 218 = .ok (.ireturn, 1) := by decide +kernel
theorem d_Q_does_0 : decode b_Q_does 0 = .ok (.aload_n 0, 1) := by decide +kernel
theorem d_Q_does_1 : decode b_Q_does 1 = .ok (.getfield 13, 3) := by decide +kernel
theorem d_Q_does_4 : decode b_Q_does 4 = .ok (.iload_n 1, 1) := by decide +kernel
theorem d_Q_does_5 : decode b_Q_does 5 = .ok (.iaload, 1) := by decide +kernel
theorem d_Q_does_6 : decode b_Q_does 6 = .ok (.bipush 64, 2) := by decide +kernel
theorem d_Q_does_8 : decode b_Q_does 8 = .ok (.invokestatic 95, 3) := by decide +kernel
theorem d_Q_does_11 : decode b_Q_does 11 = .ok (.ifCond .ne 5, 3) := by decide +kernel
theorem d_Q_does_14 : decode b_Q_does 14 = .ok (.iconst 0, 1) := by decide +kernel
theorem d_Q_does_15 : decode b_Q_does 15 = .ok (.ireturn, 1) := by decide +kernel
theorem d_Q_does_16 : decode b_Q_does 16 = .ok (.aload_n 0, 1) := by decide +kernel
theorem d_Q_does_17 : decode b_Q_does 17 = .ok (.getfield 53, 3) := by decide +kernel
theorem d_Q_does_20 : decode b_Q_does 20 = .ok (.aload_n 0, 1) := by decide +kernel
theorem d_Q_does_21 : decode b_Q_does 21 = .ok (.iload_n 1, 1) := by decide +kernel
theorem d_Q_does_22 : decode b_Q_does 22 = .ok (.aload_n 0, 1) := by decide +kernel
theorem d_Q_does_23 : decode b_Q_does 23 = .ok (.getfield 13, 3) := by decide +kernel
theorem d_Q_does_26 : decode b_Q_does 26 = .ok (.iload_n 1, 1) := by decide +kernel
theorem d_Q_does_27 : decode b_Q_does 27 = .ok (.iaload, 1) := by decide +kernel
theorem d_Q_does_28 : decode b_Q_does 28 = .ok (.iconst 0, 1) := by decide +kernel
theorem d_Q_does_29 : decode b_Q_does 29 = .ok (.invokevirtual 108, 3) := by decide +kernel
theorem d_Q_does_32 : decode b_Q_does 32 = .ok (.iaload, 1) := by decide +kernel
theorem d_Q_does_33 : decode b_Q_does 33 = .ok (.istore_n 2, 1) := by decide +kernel
theorem d_Q_does_34 : decode b_Q_does 34 = .ok (.iload_n 2, 1) := by decide +kernel
theorem d_Q_does_35 : decode b_Q_does 35 = .ok (.bipush 15, 2) := by decide +kernel
theorem d_Q_does_37 : decode b_Q_does 37 = .ok (.iand, 1) := by decide +kernel
theorem d_Q_does_38 : decode b_Q_does 38 = .ok (.istore_n 3, 1) := by decide +kernel
theorem d_Q_does_39 : decode b_Q_does 39 = .ok (.iconst 4, 1) := by decide +kernel
theorem d_Q_does_40 : decode b_Q_does 40 = .ok (.iload_n 1, 1) := by decide +kernel
theorem d_Q_does_41 : decode b_Q_does 41 = .ok (.imul, 1) := by decide +kernel
theorem d_Q_does_42 : decode b_Q_does 42 = .ok (.iload_n 2, 1) := by decide +kernel
theorem d_Q_does_43 : decode b_Q_does 43 = .ok (.iconst 4, 1) := by decide +kernel
theorem d_Q_does_44 : decode b_Q_does 44 = .ok (.ishr, 1) := by decide +kernel
theorem d_Q_does_45 : decode b_Q_does 45 = .ok (.iconst 3, 1) := by decide +kernel
theorem d_Q_does_46 : decode b_Q_does 46 = .ok (.iand, 1) := by decide +kernel
theorem d_Q_does_47 : decode b_Q_does 47 = .ok (.iadd, 1) := by decide +kernel
theorem d_Q_does_48 : decode b_Q_does 48 = .ok (.istore 4, 2) := by decide +kernel
theorem d_Q_does_50 : decode b_Q_does 50 = .ok (.aload_n 0, 1) := by decide +kernel
theorem d_Q_does_51 : decode b_Q_does 51 = .ok (.getfield 31, 3) := by decide +kernel
theorem d_Q_does_54 : decode b_Q_does 54 = .ok (.iconst 4, 1) := by decide +kernel
theorem d_Q_does_55 : decode b_Q_does 55 = .ok (.iload_n 1, 1) := by decide +kernel
theorem d_Q_does_56 : decode b_Q_does 56 = .ok (.imul, 1) := by decide +kernel
theorem d_Q_does_57 : decode b_Q_does 57 = .ok (.iload_n 2, 1) := by decide +kernel
theorem d_Q_does_58 : decode b_Q_does 58 = .ok (.bipush 6, 2) := by decide +kernel
theorem d_Q_does_60 : decode b_Q_does 60 = .ok (.ishr, 1) := by decide +kernel
theorem d_Q_does_61 : decode b_Q_does 61 = .ok (.iconst 3, 1) := by decide +kernel
theorem d_Q_does_62 : decode b_Q_does 62 = .ok (.iand, 1) := by decide +kernel
theorem d_Q_does_63 : decode b_Q_does 63 = .ok (.iadd, 1) := by decide +kernel
theorem d_Q_does_64 : decode b_Q_does 64 = .ok (.iaload, 1) := by decide +kernel
theorem d_Q_does_65 : decode b_Q_does 65 = .ok (.istore 5, 2) := by decide +kernel
theorem d_Q_does_67 : decode b_Q_does 67 = .ok (.iload_n 2, 1) := by decide +kernel
theorem d_Q_does_68 : decode b_Q_does 68 = .ok (.bipush 8, 2) := by decide +kernel
theorem d_Q_does_70 : decode b_Q_does 70 = .ok (.ishr, 1) := by decide +kernel
theorem d_Q_does_71 : decode b_Q_does 71 = .ok (.istore 6, 2) := by decide +kernel
theorem d_Q_does_73 : decode b_Q_does 73 = .ok (.aload_n 0, 1) := by decide +kernel
theorem d_Q_does_74 : decode b_Q_does 74 = .ok (.getfield 31, 3) := by decide +kernel
theorem d_Q_does_77 : decode b_Q_does 77 = .ok (.iload 4, 2) := by decide +kernel
theorem d_Q_does_79 : decode b_Q_does 79 = .ok (.iaload, 1) := by decide +kernel
theorem d_Q_does_80 : decode b_Q_does 80 = .ok (.istore 7, 2) := by decide +kernel
theorem d_Q_does_82 : decode b_Q_does 82 = .ok (.iload_n 3, 1) := by decide +kernel
theorem d_Q_does_83 : decode b_Q_does 83 = .ok (.bipush 8, 2) := by decide +kernel
theorem d_Q_does_85 : decode b_Q_does 85 = .ok (.if_icmp .ne 13, 3) := by decide +kernel
theorem d_Q_does_88 : decode b_Q_does 88 = .ok (.aload_n 0, 1) := by decide +kernel
theorem d_Q_does_89 : decode b_Q_does 89 = .ok (.iload_n 1, 1) := by decide +kernel
theorem d_Q_does_90 : decode b_Q_does 90 = .ok (.iload 4, 2) := by decide +kernel
theorem d_Q_does_92 : decode b_Q_does 92 = .ok (.iload 6, 2) := by decide +kernel
theorem d_Q_does_94 : decode b_Q_does 94 = .ok (.invokevirtual 136, 3) := by decide +kernel
theorem d_Q_does_97 : decode b_Q_does 97 = .ok (.ireturn, 1) := by decide +kernel
theorem d_Q_does_98 : decode b_Q_does 98 = .ok (.iload_n 3, 1) := by decide +kernel
theorem d_Q_does_99 : decode b_Q_does 99 = .ok (.bipush 9, 2) := by decide +kernel
theorem d_Q_does_101 : decode b_Q_does 101 = .ok (.if_icmp .le 5, 3) := by decide +kernel
theorem d_Q_does_104 : decode b_Q_does 104 = .ok (.iconst 0, 1) := by decide +kernel
theorem d_Q_does_105 : decode b_Q_does 105 = .ok (.ireturn, 1) := by decide +kernel
theorem d_Q_does_106 : decode b_Q_does 106 = .ok (.iload_n 3, 1) := by decide +kernel
theorem d_Q_does_107 : decode b_Q_does 107 = .ok (.iconst 4, 1) := by decide +kernel
theorem d_Q_does_108 : decode b_Q_does 108 = .ok (.if_icmp .eq 8, 3) := by decide +kernel
theorem d_Q_does_111 : decode b_Q_does 111 = .ok (.iload_n 3, 1) := by decide +kernel
theorem d_Q_does_112 : decode b_Q_does 112 = .ok (.iconst 5, 1) := by decide +kernel
theorem d_Q_does_113 : decode b_Q_does 113 = .ok (.if_icmp .ne 18, 3) := by decide +kernel
theorem d_Q_does_116 : decode b_Q_does 116 = .ok (.iload 5, 2) := by decide +kernel
theorem d_Q_does_118 : decode b_Q_does 118 = .ok (.iload 6, 2) := by decide +kernel
theorem d_Q_does_120 : decode b_Q_does 120 = .ok (.iadd, 1) := by decide +kernel
theorem d_Q_does_121 : decode b_Q_does 121 = .ok (.bipush 64, 2) := by decide +kernel
theorem d_Q_does_123 : decode b_Q_does 123 = .ok (.invokestatic 95, 3) := by decide +kernel
theorem d_Q_does_126 : decode b_Q_does 126 = .ok (.ifCond .ne 5, 3) := by decide +kernel
theorem d_Q_does_129 : decode b_Q_does 129 = .ok (.iconst 0, 1) := by decide +kernel
theorem d_Q_does_130 : decode b_Q_does 130 = .ok (.ireturn, 1) := by decide +kernel
theorem d_Q_does_131 : decode b_Q_does 131 = .ok (.aload_n 0, 1) := by decide +kernel
theorem d_Q_does_132 : decode b_Q_does 132 = .ok (.getfield 13, 3) := by decide +kernel
theorem d_Q_does_135 : decode b_Q_does 135 = .ok (.iload_n 1, 1) := by decide +kernel
theorem d_Q_does_136 : decode b_Q_does 136 = .ok (.iaload, 1) := by decide +kernel
theorem d_Q_does_137 : decode b_Q_does 137 = .ok (.iconst 1, 1) := by decide +kernel
theorem d_Q_does_138 : decode b_Q_does 138 = .ok (.iadd, 1) := by decide +kernel
theorem d_Q_does_139 : decode b_Q_does 139 = .ok (.istore 8, 2) := by decide +kernel
theorem d_Q_does_141 : decode b_Q_does 141 = .ok (.iload_n 3, 1) := by decide +kernel
theorem d_Q_does_142 : decode b_Q_does 142 = .ok (.tableswitch 168 0 7 #[46, 55, 67, 82, 97, 123, 144, 161], 46) := by decide +kernel
theorem d_Q_does_188 : decode b_Q_does 188 = .ok (.aload_n 0, 1) := by decide +kernel
theorem d_Q_does_189 : decode b_Q_does 189 = .ok (.iload_n 1, 1) := by decide +kernel
theorem d_Q_does_190 : decode b_Q_does 190 = .ok (.iload 7, 2) := by decide +kernel
theorem d_Q_does_192 : decode b_Q_does 192 = .ok (.invokevirtual 115, 3) := by decide +kernel
theorem d_Q_does_195 : decode b_Q_does 195 = .ok (.iconst 1, 1) := by decide +kernel
theorem d_Q_does_196 : decode b_Q_does 196 = .ok (.ireturn, 1) := by decide +kernel
theorem d_Q_does_197 : decode b_Q_does 197 = .ok (.aload_n 0, 1) := by decide +kernel
theorem d_Q_does_198 : decode b_Q_does 198 = .ok (.getfield 31, 3) := by decide +kernel
theorem d_Q_does_201 : decode b_Q_does 201 = .ok (.iload 4, 2) := by decide +kernel
theorem d_Q_does_203 : decode b_Q_does 203 = .ok (.iload 6, 2) := by decide +kernel
theorem d_Q_does_205 : decode b_Q_does 205 = .ok (.iastore, 1) := by decide +kernel
theorem d_Q_does_206 : decode b_Q_does 206 = .ok (.goto 123, 3) := by decide +kernel
theorem d_Q_does_209 : decode b_Q_does 209 = .ok (.aload_n 0, 1) := by decide +kernel
theorem d_Q_does_210 : decode b_Q_does 210 = .ok (.getfield 31, 3) := by decide +kernel
theorem d_Q_does_213 : decode b_Q_does 213 = .ok (.iload 4, 2) := by decide +kernel
theorem d_Q_does_215 : decode b_Q_does 215 = .ok (.iload 7, 2) := by decide +kernel
theorem d_Q_does_217 : decode b_Q_does 217 = .ok (.iload 5, 2) := by decide +kernel
theorem d_Q_does_219 : decode b_Q_does 219 = .ok (.iadd, 1) := by decide +kernel
theorem d_Q_does_220 : decode b_Q_does 220 = .ok (.iastore, 1) := by decide +kernel
theorem d_Q_does_221 : decode b_Q_does 221 = .ok (.goto 108, 3) := by decide +kernel
theorem d_Q_does_224 : decode b_Q_does 224 = .ok (.aload_n 0, 1) := by decide +kernel
theorem d_Q_does_225 : decode b_Q_does 225 = .ok (.getfield 31, 3) := by decide +kernel
theorem d_Q_does_228 : decode b_Q_does 228 = .ok (.iload 4, 2) := by decide +kernel
theorem d_Q_does_230 : decode b_Q_does 230 = .ok (.iload 7, 2) := by decide +kernel
theorem d_Q_does_232 : decode b_Q_does 232 = .ok (.iload 5, 2) := by decide +kernel
theorem d_Q_does_234 : decode b_Q_does 234 = .ok (.isub, 1) := by decide +kernel
theorem d_Q_does_235 : decode b_Q_does 235 = .ok (.iastore, 1) := by decide +kernel
theorem d_Q_does_236 : decode b_Q_does 236 = .ok (.goto 93, 3) := by decide +kernel
theorem d_Q_does_239 : decode b_Q_does 239 = .ok (.aload_n 0, 1) := by decide +kernel
theorem d_Q_does_240 : decode b_Q_does 240 = .ok (.getfield 31, 3) := by decide +kernel
theorem d_Q_does_243 : decode b_Q_does 243 = .ok (.iload 4, 2) := by decide +kernel
theorem d_Q_does_245 : decode b_Q_does 245 = .ok (.aload_n 0, 1) := by decide +kernel
theorem d_Q_does_246 : decode b_Q_does 246 = .ok (.getfield 53, 3) := by decide +kernel
theorem d_Q_does_249 : decode b_Q_does 249 = .ok (.aload_n 0, 1) := by decide +kernel
theorem d_Q_does_250 : decode b_Q_does 250 = .ok (.iload_n 1, 1) := by decide +kernel
theorem d_Q_does_251 : decode b_Q_does 251 = .ok (.iload 5, 2) := by decide +kernel
theorem d_Q_does_253 : decode b_Q_does 253 = .ok (.iload 6, 2) := by decide +kernel
theorem d_Q_does_255 : decode b_Q_does 255 = .ok (.iadd, 1) := by decide +kernel
theorem d_Q_does_256 : decode b_Q_does 256 = .ok (.iconst 0, 1) := by decide +kernel
theorem d_Q_does_257 : decode b_Q_does 257 = .ok (.invokevirtual 108, 3) := by decide +kernel
theorem d_Q_does_260 : decode b_Q_does 260 = .ok (.iaload, 1) := by decide +kernel
theorem d_Q_does_261 : decode b_Q_does 261 = .ok (.iastore, 1) := by decide +kernel
theorem d_Q_does_262 : decode b_Q_does 262 = .ok (.goto 67, 3) := by decide +kernel
theorem d_Q_does_265 : decode b_Q_does 265 = .ok (.aload_n 0, 1) := by decide +kernel
theorem d_Q_does_266 : decode b_Q_does 266 = .ok (.getfield 53, 3) := by decide +kernel
theorem d_Q_does_269 : decode b_Q_does 269 = .ok (.aload_n 0, 1) := by decide +kernel
theorem d_Q_does_270 : decode b_Q_does 270 = .ok (.iload_n 1, 1) := by decide +kernel
theorem d_Q_does_271 : decode b_Q_does 271 = .ok (.iload 5, 2) := by decide +kernel
theorem d_Q_does_273 : decode b_Q_does 273 = .ok (.iload 6, 2) := by decide +kernel
theorem d_Q_does_275 : decode b_Q_does 275 = .ok (.iadd, 1) := by decide +kernel
theorem d_Q_does_276 : decode b_Q_does 276 = .ok (.iconst 1, 1) := by decide +kernel
theorem d_Q_does_277 : decode b_Q_does 277 = .ok (.invokevirtual 108, 3) := by decide +kernel
theorem d_Q_does_280 : decode b_Q_does 280 = .ok (.iload 7, 2) := by decide +kernel
theorem d_Q_does_282 : decode b_Q_does 282 = .ok (.iastore, 1) := by decide +kernel
theorem d_Q_does_283 : decode b_Q_does 283 = .ok (.goto 46, 3) := by decide +kernel
theorem d_Q_does_286 : decode b_Q_does 286 = .ok (.iload 7, 2) := by decide +kernel
theorem d_Q_does_288 : decode b_Q_does 288 = .ok (.ifCond .ne 8, 3) := by decide +kernel
theorem d_Q_does_291 : decode b_Q_does 291 = .ok (.iload 6, 2) := by decide +kernel
theorem d_Q_does_293 : decode b_Q_does 293 = .ok (.goto 5, 3) := by decide +kernel
theorem d_Q_does_296 : decode b_Q_does 296 = .ok (.iload 8, 2) := by decide +kernel
theorem d_Q_does_298 : decode b_Q_does 298 = .ok (.istore 8, 2) := by decide +kernel
theorem d_Q_does_300 : decode b_Q_does 300 = .ok (.goto 29, 3) := by decide +kernel
theorem d_Q_does_303 : decode b_Q_does 303 = .ok (.iload 6, 2) := by decide +kernel
theorem d_Q_does_305 : decode b_Q_does 305 = .ok (.istore 8, 2) := by decide +kernel
theorem d_Q_does_307 : decode b_Q_does 307 = .ok (.goto 22, 3) := by decide +kernel
theorem d_Q_does_310 : decode b_Q_does 310 = .ok (.aload_n 0, 1) := by decide +kernel
theorem d_Q_does_311 : decode b_Q_does 311 = .ok (.getfield 31, 3) := by decide +kernel
theorem d_Q_does_314 : decode b_Q_does 314 = .ok (.iload 4, 2) := by decide +kernel
theorem d_Q_does_316 : decode b_Q_does 316 = .ok (.iload 7, 2) := by decide +kernel
theorem d_Q_does_318 : decode b_Q_does 318 = .ok (.iload 5, 2) := by decide +kernel
theorem d_Q_does_320 : decode b_Q_does 320 = .ok (.if_icmp .ge 7, 3) := by decide +kernel
theorem d_Q_does_323 : decode b_Q_does 323 = .ok (.iconst 1, 1) := by decide +kernel
theorem d_Q_does_324 : decode b_Q_does 324 = .ok (.goto 4, 3) := by decide +kernel
theorem d_Q_does_327 : decode b_Q_does 327 = .ok (.iconst 0, 1) := by decide +kernel
theorem d_Q_does_328 : decode b_Q_does 328 = .ok (.iastore, 1) := by decide +kernel
theorem d_Q_does_329 : decode b_Q_does 329 = .ok (.aload_n 0, 1) := by decide +kernel
theorem d_Q_does_330 : decode b_Q_does 330 = .ok (.getfield 13, 3) := by decide +kernel
theorem d_Q_does_333 : decode b_Q_does 333 = .ok (.iload_n 1, 1) := by decide +kernel
theorem d_Q_does_334 : decode b_Q_does 334 = .ok (.iload 8, 2) := by decide +kernel
theorem d_Q_does_336 : decode b_Q_does 336 = .ok (.iastore, 1) := by decide +kernel
theorem d_Q_does_337 : decode b_Q_does 337 = .ok (.iconst 1, 1) := by decide +kernel
theorem d_Q_does_338 : decode b_Q_does 338 = .ok (.ireturn, 1) := by decide +kernel
theorem d_Q_calls_0 : decode b_Q_calls 0 = .ok (.iload_n 3, 1) := by decide +kernel
theorem d_Q_calls_1 : decode b_Q_calls 1 = .ok (.bipush 6, 2) := by decide +kernel
theorem d_Q_calls_3 : decode b_Q_calls 3 = .ok (.invokestatic 95, 3) := by decide +kernel
theorem d_Q_calls_6 : decode b_Q_calls 6 = .ok (.ifCond .ne 5, 3) := by decide +kernel
theorem d_Q_calls_9 : decode b_Q_calls 9 = .ok (.iconst 0, 1) := by decide +kernel
theorem d_Q_calls_10 : decode b_Q_calls 10 = .ok (.ireturn, 1) := by decide +kernel
theorem d_Q_calls_11 : decode b_Q_calls 11 = .ok (.aload_n 0, 1) := by decide +kernel
theorem d_Q_calls_12 : decode b_Q_calls 12 = .ok (.getfield 31, 3) := by decide +kernel
theorem d_Q_calls_15 : decode b_Q_calls 15 = .ok (.iload_n 2, 1) := by decide +kernel
theorem d_Q_calls_16 : decode b_Q_calls 16 = .ok (.iaload, 1) := by decide +kernel
theorem d_Q_calls_17 : decode b_Q_calls 17 = .ok (.istore 4, 2) := by decide +kernel
theorem d_Q_calls_19 : decode b_Q_calls 19 = .ok (.iload_n 3, 1) := by decide +kernel
theorem d_Q_calls_20 : decode b_Q_calls 20 = .ok (.iconst 4, 1) := by decide +kernel
theorem d_Q_calls_21 : decode b_Q_calls 21 = .ok (.if_icmp .ne 14, 3) := by decide +kernel
theorem d_Q_calls_24 : decode b_Q_calls 24 = .ok (.aload_n 0, 1) := by decide +kernel
theorem d_Q_calls_25 : decode b_Q_calls 25 = .ok (.iload_n 1, 1) := by decide +kernel
theorem d_Q_calls_26 : decode b_Q_calls 26 = .ok (.iload_n 2, 1) := by decide +kernel
theorem d_Q_calls_27 : decode b_Q_calls 27 = .ok (.invokevirtual 140, 3) := by decide +kernel
theorem d_Q_calls_30 : decode b_Q_calls 30 = .ok (.ifCond .ne 5, 3) := by decide +kernel
theorem d_Q_calls_33 : decode b_Q_calls 33 = .ok (.iconst 1, 1) := by decide +kernel
theorem d_Q_calls_34 : decode b_Q_calls 34 = .ok (.ireturn, 1) := by decide +kernel
theorem d_Q_calls_35 : decode b_Q_calls 35 = .ok (.aload_n 0, 1) := by decide +kernel
theorem d_Q_calls_36 : decode b_Q_calls 36 = .ok (.getfield 13, 3) := by decide +kernel
theorem d_Q_calls_39 : decode b_Q_calls 39 = .ok (.iload_n 1, 1) := by decide +kernel
theorem d_Q_calls_40 : decode b_Q_calls 40 = .ok (.dup2, 1) := by decide +kernel
theorem d_Q_calls_41 : decode b_Q_calls 41 = .ok (.iaload, 1) := by decide +kernel
theorem d_Q_calls_42 : decode b_Q_calls 42 = .ok (.iconst 1, 1) := by decide +kernel
theorem d_Q_calls_43 : decode b_Q_calls 43 = .ok (.iadd, 1) := by decide +kernel
theorem d_Q_calls_44 : decode b_Q_calls 44 = .ok (.iastore, 1) := by decide +kernel
theorem d_Q_calls_45 : decode b_Q_calls 45 = .ok (.iload_n 3, 1) := by decide +kernel
theorem d_Q_calls_46 : decode b_Q_calls 46 = .ok (.tableswitch 133 0 5 #[38, 71, 88, 96, 133, 123], 38) := by decide +kernel
theorem d_Q_calls_84 : decode b_Q_calls 84 = .ok (.aload_n 0, 1) := by decide +kernel
theorem d_Q_calls_85 : decode b_Q_calls 85 = .ok (.getfield 143, 3) := by decide +kernel
theorem d_Q_calls_88 : decode b_Q_calls 88 = .ok (.bipush 40, 2) := by decide +kernel
theorem d_Q_calls_90 : decode b_Q_calls 90 = .ok (.if_icmp .ge 14, 3) := by decide +kernel
theorem d_Q_calls_93 : decode b_Q_calls 93 = .ok (.aload_n 0, 1) := by decide +kernel
theorem d_Q_calls_94 : decode b_Q_calls 94 = .ok (.getfield 56, 3) := by decide +kernel
theorem d_Q_calls_97 : decode b_Q_calls 97 = .ok (.aload_n 0, 1) := by decide +kernel
theorem d_Q_calls_98 : decode b_Q_calls 98 = .ok (.getfield 143, 3) := by decide +kernel
theorem d_Q_calls_101 : decode b_Q_calls 101 = .ok (.iload 4, 2) := by decide +kernel
theorem d_Q_calls_103 : decode b_Q_calls 103 = .ok (.iastore, 1) := by decide +kernel
theorem d_Q_calls_104 : decode b_Q_calls 104 = .ok (.aload_n 0, 1) := by decide +kernel
theorem d_Q_calls_105 : decode b_Q_calls 105 = .ok (.dup, 1) := by decide +kernel
theorem d_Q_calls_106 : decode b_Q_calls 106 = .ok (.getfield 143, 3) := by decide +kernel
theorem d_Q_calls_109 : decode b_Q_calls 109 = .ok (.iconst 1, 1) := by decide +kernel
theorem d_Q_calls_110 : decode b_Q_calls 110 = .ok (.iadd, 1) := by decide +kernel
theorem d_Q_calls_111 : decode b_Q_calls 111 = .ok (.putfield 143, 3) := by decide +kernel
theorem d_Q_calls_114 : decode b_Q_calls 114 = .ok (.goto 65, 3) := by decide +kernel
theorem d_Q_calls_117 : decode b_Q_calls 117 = .ok (.aload_n 0, 1) := by decide +kernel
theorem d_Q_calls_118 : decode b_Q_calls 118 = .ok (.getfield 31, 3) := by decide +kernel
theorem d_Q_calls_121 : decode b_Q_calls 121 = .ok (.iload_n 2, 1) := by decide +kernel
theorem d_Q_calls_122 : decode b_Q_calls 122 = .ok (.aload_n 0, 1) := by decide +kernel
theorem d_Q_calls_123 : decode b_Q_calls 123 = .ok (.iload_n 1, 1) := by decide +kernel
theorem d_Q_calls_124 : decode b_Q_calls 124 = .ok (.iload_n 2, 1) := by decide +kernel
theorem d_Q_calls_125 : decode b_Q_calls 125 = .ok (.iconst 4, 1) := by decide +kernel
theorem d_Q_calls_126 : decode b_Q_calls 126 = .ok (.irem, 1) := by decide +kernel
theorem d_Q_calls_127 : decode b_Q_calls 127 = .ok (.invokevirtual 146, 3) := by decide +kernel
theorem d_Q_calls_130 : decode b_Q_calls 130 = .ok (.iastore, 1) := by decide +kernel
theorem d_Q_calls_131 : decode b_Q_calls 131 = .ok (.goto 48, 3) := by decide +kernel
theorem d_Q_calls_134 : decode b_Q_calls 134 = .ok (.aload_n 0, 1) := by decide +kernel
theorem d_Q_calls_135 : decode b_Q_calls 135 = .ok (.iconst 1, 1) := by decide +kernel
theorem d_Q_calls_136 : decode b_Q_calls 136 = .ok (.putfield 126, 3) := by decide +kernel
theorem d_Q_calls_139 : decode b_Q_calls 139 = .ok (.goto 40, 3) := by decide +kernel
theorem d_Q_calls_142 : decode b_Q_calls 142 = .ok (.iload 4, 2) := by decide +kernel
theorem d_Q_calls_144 : decode b_Q_calls 144 = .ok (.iconst 1, 1) := by decide +kernel
theorem d_Q_calls_145 : decode b_Q_calls 145 = .ok (.if_icmp .ge 6, 3) := by decide +kernel
theorem d_Q_calls_148 : decode b_Q_calls 148 = .ok (.goto 31, 3) := by decide +kernel
theorem d_Q_calls_151 : decode b_Q_calls 151 = .ok (.aload_n 0, 1) := by decide +kernel
theorem d_Q_calls_152 : decode b_Q_calls 152 = .ok (.getfield 7, 3) := by decide +kernel
theorem d_Q_calls_155 : decode b_Q_calls 155 = .ok (.iload_n 1, 1) := by decide +kernel
theorem d_Q_calls_156 : decode b_Q_calls 156 = .ok (.iconst 2, 1) := by decide +kernel
theorem d_Q_calls_157 : decode b_Q_calls 157 = .ok (.iastore, 1) := by decide +kernel
theorem d_Q_calls_158 : decode b_Q_calls 158 = .ok (.aload_n 0, 1) := by decide +kernel
theorem d_Q_calls_159 : decode b_Q_calls 159 = .ok (.getfield 22, 3) := by decide +kernel
theorem d_Q_calls_162 : decode b_Q_calls 162 = .ok (.iload_n 1, 1) := by decide +kernel
theorem d_Q_calls_163 : decode b_Q_calls 163 = .ok (.iload 4, 2) := by decide +kernel
theorem d_Q_calls_165 : decode b_Q_calls 165 = .ok (.iastore, 1) := by decide +kernel
theorem d_Q_calls_166 : decode b_Q_calls 166 = .ok (.goto 13, 3) := by decide +kernel
theorem d_Q_calls_169 : decode b_Q_calls 169 = .ok (.aload_n 0, 1) := by decide +kernel
theorem d_Q_calls_170 : decode b_Q_calls 170 = .ok (.getfield 31, 3) := by decide +kernel
theorem d_Q_calls_173 : decode b_Q_calls 173 = .ok (.iload_n 2, 1) := by decide +kernel
theorem d_Q_calls_174 : decode b_Q_calls 174 = .ok (.iload_n 1, 1) := by decide +kernel
theorem d_Q_calls_175 : decode b_Q_calls 175 = .ok (.iastore, 1) := by decide +kernel
theorem d_Q_calls_176 : decode b_Q_calls 176 = .ok (.goto 3, 3) := by decide +kernel
theorem d_Q_calls_179 : decode b_Q_calls 179 = .ok (.iconst 1, 1) := by decide +kernel
theorem d_Q_calls_180 : decode b_Q_calls 180 = .ok (.ireturn, 1) := by decide +kernel
