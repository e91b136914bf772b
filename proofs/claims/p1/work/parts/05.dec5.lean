theorem d_Q_waits_0 : decode b_Q_waits 0 = .ok (.iconst 0, 1) := by decide +kernel
theorem d_Q_waits_1 : decode b_Q_waits 1 = .ok (.istore_n 3, 1) := by decide +kernel
theorem d_Q_waits_2 : decode b_Q_waits 2 = .ok (.iconst 0, 1) := by decide +kernel
theorem d_Q_waits_3 : decode b_Q_waits 3 = .ok (.istore 4, 2) := by decide +kernel
theorem d_Q_waits_5 : decode b_Q_waits 5 = .ok (.iload 4, 2) := by decide +kernel
theorem d_Q_waits_7 : decode b_Q_waits 7 = .ok (.iconst 4, 1) := by decide +kernel
theorem d_Q_waits_8 : decode b_Q_waits 8 = .ok (.if_icmp .ge 72, 3) := by decide +kernel
theorem d_Q_waits_11 : decode b_Q_waits 11 = .ok (.aload_n 0, 1) := by decide +kernel
theorem d_Q_waits_12 : decode b_Q_waits 12 = .ok (.getfield 7, 3) := by decide +kernel
theorem d_Q_waits_15 : decode b_Q_waits 15 = .ok (.iload 4, 2) := by decide +kernel
theorem d_Q_waits_17 : decode b_Q_waits 17 = .ok (.iaload, 1) := by decide +kernel
theorem d_Q_waits_18 : decode b_Q_waits 18 = .ok (.ifCond .eq 56, 3) := by decide +kernel
theorem d_Q_waits_21 : decode b_Q_waits 21 = .ok (.aload_n 0, 1) := by decide +kernel
theorem d_Q_waits_22 : decode b_Q_waits 22 = .ok (.getfield 16, 3) := by decide +kernel
theorem d_Q_waits_25 : decode b_Q_waits 25 = .ok (.iload 4, 2) := by decide +kernel
theorem d_Q_waits_27 : decode b_Q_waits 27 = .ok (.iaload, 1) := by decide +kernel
theorem d_Q_waits_28 : decode b_Q_waits 28 = .ok (.iload_n 1, 1) := by decide +kernel
theorem d_Q_waits_29 : decode b_Q_waits 29 = .ok (.if_icmp .eq 6, 3) := by decide +kernel
theorem d_Q_waits_32 : decode b_Q_waits 32 = .ok (.goto 42, 3) := by decide +kernel
theorem d_Q_waits_35 : decode b_Q_waits 35 = .ok (.iconst 1, 1) := by decide +kernel
theorem d_Q_waits_36 : decode b_Q_waits 36 = .ok (.istore_n 3, 1) := by decide +kernel
theorem d_Q_waits_37 : decode b_Q_waits 37 = .ok (.aload_n 0, 1) := by decide +kernel
theorem d_Q_waits_38 : decode b_Q_waits 38 = .ok (.getfield 7, 3) := by decide +kernel
theorem d_Q_waits_41 : decode b_Q_waits 41 = .ok (.iload 4, 2) := by decide +kernel
theorem d_Q_waits_43 : decode b_Q_waits 43 = .ok (.iaload, 1) := by decide +kernel
theorem d_Q_waits_44 : decode b_Q_waits 44 = .ok (.iconst 4, 1) := by decide +kernel
theorem d_Q_waits_45 : decode b_Q_waits 45 = .ok (.if_icmp .eq 6, 3) := by decide +kernel
theorem d_Q_waits_48 : decode b_Q_waits 48 = .ok (.goto 26, 3) := by decide +kernel
theorem d_Q_waits_51 : decode b_Q_waits 51 = .ok (.aload_n 0, 1) := by decide +kernel
theorem d_Q_waits_52 : decode b_Q_waits 52 = .ok (.getfield 7, 3) := by decide +kernel
theorem d_Q_waits_55 : decode b_Q_waits 55 = .ok (.iload 4, 2) := by decide +kernel
theorem d_Q_waits_57 : decode b_Q_waits 57 = .ok (.iconst 0, 1) := by decide +kernel
theorem d_Q_waits_58 : decode b_Q_waits 58 = .ok (.iastore, 1) := by decide +kernel
theorem d_Q_waits_59 : decode b_Q_waits 59 = .ok (.aload_n 0, 1) := by decide +kernel
theorem d_Q_waits_60 : decode b_Q_waits 60 = .ok (.getfield 31, 3) := by decide +kernel
theorem d_Q_waits_63 : decode b_Q_waits 63 = .ok (.iload_n 2, 1) := by decide +kernel
theorem d_Q_waits_64 : decode b_Q_waits 64 = .ok (.aload_n 0, 1) := by decide +kernel
theorem d_Q_waits_65 : decode b_Q_waits 65 = .ok (.getfield 19, 3) := by decide +kernel
theorem d_Q_waits_68 : decode b_Q_waits 68 = .ok (.iload 4, 2) := by decide +kernel
theorem d_Q_waits_70 : decode b_Q_waits 70 = .ok (.iaload, 1) := by decide +kernel
theorem d_Q_waits_71 : decode b_Q_waits 71 = .ok (.iastore, 1) := by decide +kernel
theorem d_Q_waits_72 : decode b_Q_waits 72 = .ok (.iconst 1, 1) := by decide +kernel
theorem d_Q_waits_73 : decode b_Q_waits 73 = .ok (.ireturn, 1) := by decide +kernel
theorem d_Q_waits_74 : decode b_Q_waits 74 = .ok (.iinc 4 1, 3) := by decide +kernel
theorem d_Q_waits_77 : decode b_Q_waits 77 = .ok (.goto (-72), 3) := by decide +kernel
theorem d_Q_waits_80 : decode b_Q_waits 80 = .ok (.iload_n 3, 1) := by decide +kernel
theorem d_Q_waits_81 : decode b_Q_waits 81 = .ok (.ifCond .eq 13, 3) := by decide +kernel
theorem d_Q_waits_84 : decode b_Q_waits 84 = .ok (.aload_n 0, 1) := by decide +kernel
theorem d_Q_waits_85 : decode b_Q_waits 85 = .ok (.getfield 7, 3) := by decide +kernel
theorem d_Q_waits_88 : decode b_Q_waits 88 = .ok (.iload_n 1, 1) := by decide +kernel
theorem d_Q_waits_89 : decode b_Q_waits 89 = .ok (.iconst 3, 1) := by decide +kernel
theorem d_Q_waits_90 : decode b_Q_waits 90 = .ok (.iastore, 1) := by decide +kernel
theorem d_Q_waits_91 : decode b_Q_waits 91 = .ok (.goto 11, 3) := by decide +kernel
theorem d_Q_waits_94 : decode b_Q_waits 94 = .ok (.aload_n 0, 1) := by decide +kernel
theorem d_Q_waits_95 : decode b_Q_waits 95 = .ok (.getfield 31, 3) := by decide +kernel
theorem d_Q_waits_98 : decode b_Q_waits 98 = .ok (.iload_n 2, 1) := by decide +kernel
theorem d_Q_waits_99 : decode b_Q_waits 99 = .ok (.bipush (-2), 2) := by decide +kernel
theorem d_Q_waits_101 : decode b_Q_waits 101 = .ok (.iastore, 1) := by decide +kernel
theorem d_Q_waits_102 : decode b_Q_waits 102 = .ok (.iload_n 3, 1) := by decide +kernel
theorem d_Q_waits_103 : decode b_Q_waits 103 = .ok (.ifCond .ne 7, 3) := by decide +kernel
theorem d_Q_waits_106 : decode b_Q_waits 106 = .ok (.iconst 1, 1) := by decide +kernel
theorem d_Q_waits_107 : decode b_Q_waits 107 = .ok (.goto 4, 3) := by decide +kernel
theorem d_Q_waits_110 : decode b_Q_waits 110 = .ok (.iconst 0, 1) := by decide +kernel
theorem d_Q_waits_111 : decode b_Q_waits 111 = .ok (.ireturn, 1) := by decide +kernel
theorem d_Q_fork_0 : decode b_Q_fork 0 = .ok (.aload_n 0, 1) := by decide +kernel
theorem d_Q_fork_1 : decode b_Q_fork 1 = .ok (.iload_n 1, 1) := by decide +kernel
theorem d_Q_fork_2 : decode b_Q_fork 2 = .ok (.invokevirtual 102, 3) := by decide +kernel
theorem d_Q_fork_5 : decode b_Q_fork 5 = .ok (.istore_n 3, 1) := by decide +kernel
theorem d_Q_fork_6 : decode b_Q_fork 6 = .ok (.iload_n 3, 1) := by decide +kernel
theorem d_Q_fork_7 : decode b_Q_fork 7 = .ok (.ifCond .ge 6, 3) := by decide +kernel
theorem d_Q_fork_10 : decode b_Q_fork 10 = .ok (.bipush (-2), 2) := by decide +kernel
theorem d_Q_fork_12 : decode b_Q_fork 12 = .ok (.ireturn, 1) := by decide +kernel
theorem d_Q_fork_13 : decode b_Q_fork 13 = .ok (.iconst 0, 1) := by decide +kernel
theorem d_Q_fork_14 : decode b_Q_fork 14 = .ok (.istore 4, 2) := by decide +kernel
theorem d_Q_fork_16 : decode b_Q_fork 16 = .ok (.iload 4, 2) := by decide +kernel
theorem d_Q_fork_18 : decode b_Q_fork 18 = .ok (.iconst 4, 1) := by decide +kernel
theorem d_Q_fork_19 : decode b_Q_fork 19 = .ok (.if_icmp .ge 31, 3) := by decide +kernel
theorem d_Q_fork_22 : decode b_Q_fork 22 = .ok (.aload_n 0, 1) := by decide +kernel
theorem d_Q_fork_23 : decode b_Q_fork 23 = .ok (.getfield 31, 3) := by decide +kernel
theorem d_Q_fork_26 : decode b_Q_fork 26 = .ok (.iconst 4, 1) := by decide +kernel
theorem d_Q_fork_27 : decode b_Q_fork 27 = .ok (.iload_n 3, 1) := by decide +kernel
theorem d_Q_fork_28 : decode b_Q_fork 28 = .ok (.imul, 1) := by decide +kernel
theorem d_Q_fork_29 : decode b_Q_fork 29 = .ok (.iload 4, 2) := by decide +kernel
theorem d_Q_fork_31 : decode b_Q_fork 31 = .ok (.iadd, 1) := by decide +kernel
theorem d_Q_fork_32 : decode b_Q_fork 32 = .ok (.aload_n 0, 1) := by decide +kernel
theorem d_Q_fork_33 : decode b_Q_fork 33 = .ok (.getfield 31, 3) := by decide +kernel
theorem d_Q_fork_36 : decode b_Q_fork 36 = .ok (.iconst 4, 1) := by decide +kernel
theorem d_Q_fork_37 : decode b_Q_fork 37 = .ok (.iload_n 1, 1) := by decide +kernel
theorem d_Q_fork_38 : decode b_Q_fork 38 = .ok (.imul, 1) := by decide +kernel
theorem d_Q_fork_39 : decode b_Q_fork 39 = .ok (.iload 4, 2) := by decide +kernel
theorem d_Q_fork_41 : decode b_Q_fork 41 = .ok (.iadd, 1) := by decide +kernel
theorem d_Q_fork_42 : decode b_Q_fork 42 = .ok (.iaload, 1) := by decide +kernel
theorem d_Q_fork_43 : decode b_Q_fork 43 = .ok (.iastore, 1) := by decide +kernel
theorem d_Q_fork_44 : decode b_Q_fork 44 = .ok (.iinc 4 1, 3) := by decide +kernel
theorem d_Q_fork_47 : decode b_Q_fork 47 = .ok (.goto (-31), 3) := by decide +kernel
theorem d_Q_fork_50 : decode b_Q_fork 50 = .ok (.iconst 0, 1) := by decide +kernel
theorem d_Q_fork_51 : decode b_Q_fork 51 = .ok (.istore 4, 2) := by decide +kernel
theorem d_Q_fork_53 : decode b_Q_fork 53 = .ok (.iload 4, 2) := by decide +kernel
theorem d_Q_fork_55 : decode b_Q_fork 55 = .ok (.bipush 8, 2) := by decide +kernel
theorem d_Q_fork_57 : decode b_Q_fork 57 = .ok (.if_icmp .ge 33, 3) := by decide +kernel
theorem d_Q_fork_60 : decode b_Q_fork 60 = .ok (.aload_n 0, 1) := by decide +kernel
theorem d_Q_fork_61 : decode b_Q_fork 61 = .ok (.getfield 34, 3) := by decide +kernel
theorem d_Q_fork_64 : decode b_Q_fork 64 = .ok (.bipush 8, 2) := by decide +kernel
theorem d_Q_fork_66 : decode b_Q_fork 66 = .ok (.iload_n 3, 1) := by decide +kernel
theorem d_Q_fork_67 : decode b_Q_fork 67 = .ok (.imul, 1) := by decide +kernel
theorem d_Q_fork_68 : decode b_Q_fork 68 = .ok (.iload 4, 2) := by decide +kernel
theorem d_Q_fork_70 : decode b_Q_fork 70 = .ok (.iadd, 1) := by decide +kernel
theorem d_Q_fork_71 : decode b_Q_fork 71 = .ok (.aload_n 0, 1) := by decide +kernel
theorem d_Q_fork_72 : decode b_Q_fork 72 = .ok (.getfield 34, 3) := by decide +kernel
theorem d_Q_fork_75 : decode b_Q_fork 75 = .ok (.bipush 8, 2) := by decide +kernel
theorem d_Q_fork_77 : decode b_Q_fork 77 = .ok (.iload_n 1, 1) := by decide +kernel
theorem d_Q_fork_78 : decode b_Q_fork 78 = .ok (.imul, 1) := by decide +kernel
theorem d_Q_fork_79 : decode b_Q_fork 79 = .ok (.iload 4, 2) := by decide +kernel
theorem d_Q_fork_81 : decode b_Q_fork 81 = .ok (.iadd, 1) := by decide +kernel
theorem d_Q_fork_82 : decode b_Q_fork 82 = .ok (.iaload, 1) := by decide +kernel
theorem d_Q_fork_83 : decode b_Q_fork 83 = .ok (.iastore, 1) := by decide +kernel
theorem d_Q_fork_84 : decode b_Q_fork 84 = .ok (.iinc 4 1, 3) := by decide +kernel
theorem d_Q_fork_87 : decode b_Q_fork 87 = .ok (.goto (-34), 3) := by decide +kernel
theorem d_Q_fork_90 : decode b_Q_fork 90 = .ok (.aload_n 0, 1) := by decide +kernel
theorem d_Q_fork_91 : decode b_Q_fork 91 = .ok (.getfield 31, 3) := by decide +kernel
theorem d_Q_fork_94 : decode b_Q_fork 94 = .ok (.iconst 4, 1) := by decide +kernel
theorem d_Q_fork_95 : decode b_Q_fork 95 = .ok (.iload_n 3, 1) := by decide +kernel
theorem d_Q_fork_96 : decode b_Q_fork 96 = .ok (.imul, 1) := by decide +kernel
theorem d_Q_fork_97 : decode b_Q_fork 97 = .ok (.iload_n 2, 1) := by decide +kernel
theorem d_Q_fork_98 : decode b_Q_fork 98 = .ok (.iadd, 1) := by decide +kernel
theorem d_Q_fork_99 : decode b_Q_fork 99 = .ok (.iconst (-1), 1) := by decide +kernel
theorem d_Q_fork_100 : decode b_Q_fork 100 = .ok (.iastore, 1) := by decide +kernel
theorem d_Q_fork_101 : decode b_Q_fork 101 = .ok (.aload_n 0, 1) := by decide +kernel
theorem d_Q_fork_102 : decode b_Q_fork 102 = .ok (.getfield 13, 3) := by decide +kernel
theorem d_Q_fork_105 : decode b_Q_fork 105 = .ok (.iload_n 3, 1) := by decide +kernel
theorem d_Q_fork_106 : decode b_Q_fork 106 = .ok (.aload_n 0, 1) := by decide +kernel
theorem d_Q_fork_107 : decode b_Q_fork 107 = .ok (.getfield 13, 3) := by decide +kernel
theorem d_Q_fork_110 : decode b_Q_fork 110 = .ok (.iload_n 1, 1) := by decide +kernel
theorem d_Q_fork_111 : decode b_Q_fork 111 = .ok (.iaload, 1) := by decide +kernel
theorem d_Q_fork_112 : decode b_Q_fork 112 = .ok (.iastore, 1) := by decide +kernel
theorem d_Q_fork_113 : decode b_Q_fork 113 = .ok (.iload_n 3, 1) := by decide +kernel
theorem d_Q_fork_114 : decode b_Q_fork 114 = .ok (.ireturn, 1) := by decide +kernel
theorem d_Q_process_0 : decode b_Q_process 0 = .ok (.iload_n 1, 1) := by decide +kernel
theorem d_Q_process_1 : decode b_Q_process 1 = .ok (.iconst 4, 1) := by decide +kernel
theorem d_Q_process_2 : decode b_Q_process 2 = .ok (.invokestatic 95, 3) := by decide +kernel
theorem d_Q_process_5 : decode b_Q_process 5 = .ok (.ifCond .eq 23, 3) := by decide +kernel
theorem d_Q_process_8 : decode b_Q_process 8 = .ok (.iload_n 2, 1) := by decide +kernel
theorem d_Q_process_9 : decode b_Q_process 9 = .ok (.bipush 7, 2) := by decide +kernel
theorem d_Q_process_11 : decode b_Q_process 11 = .ok (.invokestatic 95, 3) := by decide +kernel
theorem d_Q_process_14 : decode b_Q_process 14 = .ok (.ifCond .ne 16, 3) := by decide +kernel
theorem d_Q_process_17 : decode b_Q_process 17 = .ok (.iload_n 2, 1) := by decide +kernel
theorem d_Q_process_18 : decode b_Q_process 18 = .ok (.bipush 10, 2) := by decide +kernel
theorem d_Q_process_20 : decode b_Q_process 20 = .ok (.isub, 1) := by decide +kernel
theorem d_Q_process_21 : decode b_Q_process 21 = .ok (.iconst 4, 1) := by decide +kernel
theorem d_Q_process_22 : decode b_Q_process 22 = .ok (.invokestatic 95, 3) := by decide +kernel
theorem d_Q_process_25 : decode b_Q_process 25 = .ok (.ifCond .ne 5, 3) := by decide +kernel
theorem d_Q_process_28 : decode b_Q_process 28 = .ok (.iconst (-1), 1) := by decide +kernel
theorem d_Q_process_29 : decode b_Q_process 29 = .ok (.ireturn, 1) := by decide +kernel
theorem d_Q_process_30 : decode b_Q_process 30 = .ok (.aload_n 0, 1) := by decide +kernel
theorem d_Q_process_31 : decode b_Q_process 31 = .ok (.getfield 7, 3) := by decide +kernel
theorem d_Q_process_34 : decode b_Q_process 34 = .ok (.iload_n 1, 1) := by decide +kernel
theorem d_Q_process_35 : decode b_Q_process 35 = .ok (.iaload, 1) := by decide +kernel
theorem d_Q_process_36 : decode b_Q_process 36 = .ok (.ifCond .ne 5, 3) := by decide +kernel
theorem d_Q_process_39 : decode b_Q_process 39 = .ok (.iconst 0, 1) := by decide +kernel
theorem d_Q_process_40 : decode b_Q_process 40 = .ok (.ireturn, 1) := by decide +kernel
theorem d_Q_process_41 : decode b_Q_process 41 = .ok (.iload_n 2, 1) := by decide +kernel
theorem d_Q_process_42 : decode b_Q_process 42 = .ok (.bipush 10, 2) := by decide +kernel
theorem d_Q_process_44 : decode b_Q_process 44 = .ok (.if_icmp .lt 17, 3) := by decide +kernel
theorem d_Q_process_47 : decode b_Q_process 47 = .ok (.aload_n 0, 1) := by decide +kernel
theorem d_Q_process_48 : decode b_Q_process 48 = .ok (.getfield 31, 3) := by decide +kernel
theorem d_Q_process_51 : decode b_Q_process 51 = .ok (.iconst 4, 1) := by decide +kernel
theorem d_Q_process_52 : decode b_Q_process 52 = .ok (.iload_n 1, 1) := by decide +kernel
theorem d_Q_process_53 : decode b_Q_process 53 = .ok (.imul, 1) := by decide +kernel
theorem d_Q_process_54 : decode b_Q_process 54 = .ok (.iload_n 2, 1) := by decide +kernel
theorem d_Q_process_55 : decode b_Q_process 55 = .ok (.iadd, 1) := by decide +kernel
theorem d_Q_process_56 : decode b_Q_process 56 = .ok (.bipush 10, 2) := by decide +kernel
theorem d_Q_process_58 : decode b_Q_process 58 = .ok (.isub, 1) := by decide +kernel
theorem d_Q_process_59 : decode b_Q_process 59 = .ok (.iaload, 1) := by decide +kernel
theorem d_Q_process_60 : decode b_Q_process 60 = .ok (.ireturn, 1) := by decide +kernel
theorem d_Q_process_61 : decode b_Q_process 61 = .ok (.iload_n 2, 1) := by decide +kernel
theorem d_Q_process_62 : decode b_Q_process 62 = .ok (.tableswitch 108 0 5 #[38, 45, 52, 59, 80, 101], 38) := by decide +kernel
theorem d_Q_process_100 : decode b_Q_process 100 = .ok (.aload_n 0, 1) := by decide +kernel
theorem d_Q_process_101 : decode b_Q_process 101 = .ok (.getfield 7, 3) := by decide +kernel
theorem d_Q_process_104 : decode b_Q_process 104 = .ok (.iload_n 1, 1) := by decide +kernel
theorem d_Q_process_105 : decode b_Q_process 105 = .ok (.iaload, 1) := by decide +kernel
theorem d_Q_process_106 : decode b_Q_process 106 = .ok (.ireturn, 1) := by decide +kernel
theorem d_Q_process_107 : decode b_Q_process 107 = .ok (.aload_n 0, 1) := by decide +kernel
theorem d_Q_process_108 : decode b_Q_process 108 = .ok (.getfield 13, 3) := by decide +kernel
theorem d_Q_process_111 : decode b_Q_process 111 = .ok (.iload_n 1, 1) := by decide +kernel
theorem d_Q_process_112 : decode b_Q_process 112 = .ok (.iaload, 1) := by decide +kernel
theorem d_Q_process_113 : decode b_Q_process 113 = .ok (.ireturn, 1) := by decide +kernel
theorem d_Q_process_114 : decode b_Q_process 114 = .ok (.aload_n 0, 1) := by decide +kernel
theorem d_Q_process_115 : decode b_Q_process 115 = .ok (.getfield 16, 3) := by decide +kernel
theorem d_Q_process_118 : decode b_Q_process 118 = .ok (.iload_n 1, 1) := by decide +kernel
theorem d_Q_process_119 : decode b_Q_process 119 = .ok (.iaload, 1) := by decide +kernel
theorem d_Q_process_120 : decode b_Q_process 120 = .ok (.ireturn, 1) := by decide +kernel
theorem d_Q_process_121 : decode b_Q_process 121 = .ok (.aload_n 0, 1) := by decide +kernel
theorem d_Q_process_122 : decode b_Q_process 122 = .ok (.getfield 7, 3) := by decide +kernel
theorem d_Q_process_125 : decode b_Q_process 125 = .ok (.iload_n 1, 1) := by decide +kernel
theorem d_Q_process_126 : decode b_Q_process 126 = .ok (.iaload, 1) := by decide +kernel
theorem d_Q_process_127 : decode b_Q_process 127 = .ok (.iconst 4, 1) := by decide +kernel
theorem d_Q_process_128 : decode b_Q_process 128 = .ok (.if_icmp .ne 12, 3) := by decide +kernel
theorem d_Q_process_131 : decode b_Q_process 131 = .ok (.aload_n 0, 1) := by decide +kernel
theorem d_Q_process_132 : decode b_Q_process 132 = .ok (.getfield 19, 3) := by decide +kernel
theorem d_Q_process_135 : decode b_Q_process 135 = .ok (.iload_n 1, 1) := by decide +kernel
theorem d_Q_process_136 : decode b_Q_process 136 = .ok (.iaload, 1) := by decide +kernel
theorem d_Q_process_137 : decode b_Q_process 137 = .ok (.goto 4, 3) := by decide +kernel
theorem d_Q_process_140 : decode b_Q_process 140 = .ok (.iconst 0, 1) := by decide +kernel
theorem d_Q_process_141 : decode b_Q_process 141 = .ok (.ireturn, 1) := by decide +kernel
theorem d_Q_process_142 : decode b_Q_process 142 = .ok (.aload_n 0, 1) := by decide +kernel
theorem d_Q_process_143 : decode b_Q_process 143 = .ok (.getfield 7, 3) := by decide +kernel
theorem d_Q_process_146 : decode b_Q_process 146 = .ok (.iload_n 1, 1) := by decide +kernel
theorem d_Q_process_147 : decode b_Q_process 147 = .ok (.iaload, 1) := by decide +kernel
theorem d_Q_process_148 : decode b_Q_process 148 = .ok (.iconst 2, 1) := by decide +kernel
theorem d_Q_process_149 : decode b_Q_process 149 = .ok (.if_icmp .ne 12, 3) := by decide +kernel
theorem d_Q_process_152 : decode b_Q_process 152 = .ok (.aload_n 0, 1) := by decide +kernel
theorem d_Q_process_153 : decode b_Q_process 153 = .ok (.getfield 22, 3) := by decide +kernel
theorem d_Q_process_156 : decode b_Q_process 156 = .ok (.iload_n 1, 1) := by decide +kernel
theorem d_Q_process_157 : decode b_Q_process 157 = .ok (.iaload, 1) := by decide +kernel
theorem d_Q_process_158 : decode b_Q_process 158 = .ok (.goto 4, 3) := by decide +kernel
theorem d_Q_process_161 : decode b_Q_process 161 = .ok (.iconst 0, 1) := by decide +kernel
theorem d_Q_process_162 : decode b_Q_process 162 = .ok (.ireturn, 1) := by decide +kernel
theorem d_Q_process_163 : decode b_Q_process 163 = .ok (.aload_n 0, 1) := by decide +kernel
theorem d_Q_process_164 : decode b_Q_process 164 = .ok (.getfield 25, 3) := by decide +kernel
theorem d_Q_process_167 : decode b_Q_process 167 = .ok (.iload_n 1, 1) := by decide +kernel
theorem d_Q_process_168 : decode b_Q_process 168 = .ok (.iaload, 1) := by decide +kernel
theorem d_Q_process_169 : decode b_Q_process 169 = .ok (.ireturn, 1) := by decide +kernel
theorem d_Q_process_170 : decode b_Q_process 170 = .ok (.aload_n 0, 1) := by decide +kernel
theorem d_Q_process_171 : decode b_Q_process 171 = .ok (.getfield 28, 3) := by decide +kernel
theorem d_Q_process_174 : decode b_Q_process 174 = .ok (.iload_n 1, 1) := by decide +kernel
theorem d_Q_process_175 : decode b_Q_process 175 = .ok (.iaload, 1) := by decide +kernel
theorem d_Q_process_176 : decode b_Q_process 176 = .ok (.ireturn, 1) := by decide +kernel
theorem d_Q_page_0 : decode b_Q_page 0 = .ok (.aload_n 0, 1) := by decide +kernel
theorem d_Q_page_1 : decode b_Q_page 1 = .ok (.iload_n 1, 1) := by decide +kernel
theorem d_Q_page_2 : decode b_Q_page 2 = .ok (.invokevirtual 99, 3) := by decide +kernel
theorem d_Q_page_5 : decode b_Q_page 5 = .ok (.ifCond .eq 21, 3) := by decide +kernel
theorem d_Q_page_8 : decode b_Q_page 8 = .ok (.iload_n 2, 1) := by decide +kernel
theorem d_Q_page_9 : decode b_Q_page 9 = .ok (.bipush 8, 2) := by decide +kernel
theorem d_Q_page_11 : decode b_Q_page 11 = .ok (.invokestatic 95, 3) := by decide +kernel
theorem d_Q_page_14 : decode b_Q_page 14 = .ok (.ifCond .eq 12, 3) := by decide +kernel
theorem d_Q_page_17 : decode b_Q_page 17 = .ok (.iload_n 3, 1) := by decide +kernel
theorem d_Q_page_18 : decode b_Q_page 18 = .ok (.bipush 6, 2) := by decide +kernel
theorem d_Q_page_20 : decode b_Q_page 20 = .ok (.invokestatic 95, 3) := by decide +kernel
theorem d_Q_page_23 : decode b_Q_page 23 = .ok (.ifCond .ne 5, 3) := by decide +kernel
theorem d_Q_page_26 : decode b_Q_page 26 = .ok (.iconst (-1), 1) := by decide +kernel
theorem d_Q_page_27 : decode b_Q_page 27 = .ok (.ireturn, 1) := by decide +kernel
theorem d_Q_page_28 : decode b_Q_page 28 = .ok (.aload_n 0, 1) := by decide +kernel
theorem d_Q_page_29 : decode b_Q_page 29 = .ok (.getfield 34, 3) := by decide +kernel
theorem d_Q_page_32 : decode b_Q_page 32 = .ok (.bipush 8, 2) := by decide +kernel
theorem d_Q_page_34 : decode b_Q_page 34 = .ok (.iload_n 1, 1) := by decide +kernel
theorem d_Q_page_35 : decode b_Q_page 35 = .ok (.imul, 1) := by decide +kernel
theorem d_Q_page_36 : decode b_Q_page 36 = .ok (.iload_n 2, 1) := by decide +kernel
theorem d_Q_page_37 : decode b_Q_page 37 = .ok (.iadd, 1) := by decide +kernel
theorem d_Q_page_38 : decode b_Q_page 38 = .ok (.iaload, 1) := by decide +kernel
theorem d_Q_page_39 : decode b_Q_page 39 = .ok (.istore 4, 2) := by decide +kernel
theorem d_Q_page_41 : decode b_Q_page 41 = .ok (.iload_n 3, 1) := by decide +kernel
theorem d_Q_page_42 : decode b_Q_page 42 = .ok (.tableswitch 157 0 4 #[34, 59, 87, 115, 136], 34) := by decide +kernel
theorem d_Q_page_76 : decode b_Q_page 76 = .ok (.iload 4, 2) := by decide +kernel
theorem d_Q_page_78 : decode b_Q_page 78 = .ok (.ifCond .ge 7, 3) := by decide +kernel
theorem d_Q_page_81 : decode b_Q_page 81 = .ok (.iconst 0, 1) := by decide +kernel
theorem d_Q_page_82 : decode b_Q_page 82 = .ok (.goto 18, 3) := by decide +kernel
theorem d_Q_page_85 : decode b_Q_page 85 = .ok (.aload_n 0, 1) := by decide +kernel
theorem d_Q_page_86 : decode b_Q_page 86 = .ok (.getfield 47, 3) := by decide +kernel
theorem d_Q_page_89 : decode b_Q_page 89 = .ok (.iload 4, 2) := by decide +kernel
theorem d_Q_page_91 : decode b_Q_page 91 = .ok (.iaload, 1) := by decide +kernel
theorem d_Q_page_92 : decode b_Q_page 92 = .ok (.ifCond .ge 7, 3) := by decide +kernel
theorem d_Q_page_95 : decode b_Q_page 95 = .ok (.iconst 2, 1) := by decide +kernel
theorem d_Q_page_96 : decode b_Q_page 96 = .ok (.goto 4, 3) := by decide +kernel
theorem d_Q_page_99 : decode b_Q_page 99 = .ok (.iconst 1, 1) := by decide +kernel
theorem d_Q_page_100 : decode b_Q_page 100 = .ok (.ireturn, 1) := by decide +kernel
theorem d_Q_page_101 : decode b_Q_page 101 = .ok (.iload 4, 2) := by decide +kernel
theorem d_Q_page_103 : decode b_Q_page 103 = .ok (.ifCond .lt 13, 3) := by decide +kernel
theorem d_Q_page_106 : decode b_Q_page 106 = .ok (.aload_n 0, 1) := by decide +kernel
theorem d_Q_page_107 : decode b_Q_page 107 = .ok (.getfield 47, 3) := by decide +kernel
theorem d_Q_page_110 : decode b_Q_page 110 = .ok (.iload 4, 2) := by decide +kernel
theorem d_Q_page_112 : decode b_Q_page 112 = .ok (.iaload, 1) := by decide +kernel
theorem d_Q_page_113 : decode b_Q_page 113 = .ok (.ifCond .ge 8, 3) := by decide +kernel
theorem d_Q_page_116 : decode b_Q_page 116 = .ok (.bipush (-2), 2) := by decide +kernel
theorem d_Q_page_118 : decode b_Q_page 118 = .ok (.goto 10, 3) := by decide +kernel
theorem d_Q_page_121 : decode b_Q_page 121 = .ok (.aload_n 0, 1) := by decide +kernel
theorem d_Q_page_122 : decode b_Q_page 122 = .ok (.getfield 47, 3) := by decide +kernel
theorem d_Q_page_125 : decode b_Q_page 125 = .ok (.iload 4, 2) := by decide +kernel
theorem d_Q_page_127 : decode b_Q_page 127 = .ok (.iaload, 1) := by decide +kernel
theorem d_Q_page_128 : decode b_Q_page 128 = .ok (.ireturn, 1) := by decide +kernel
theorem d_Q_page_129 : decode b_Q_page 129 = .ok (.iload 4, 2) := by decide +kernel
theorem d_Q_page_131 : decode b_Q_page 131 = .ok (.ifCond .lt 13, 3) := by decide +kernel
theorem d_Q_page_134 : decode b_Q_page 134 = .ok (.aload_n 0, 1) := by decide +kernel
theorem d_Q_page_135 : decode b_Q_page 135 = .ok (.getfield 50, 3) := by decide +kernel
theorem d_Q_page_138 : decode b_Q_page 138 = .ok (.iload 4, 2) := by decide +kernel
theorem d_Q_page_140 : decode b_Q_page 140 = .ok (.iaload, 1) := by decide +kernel
theorem d_Q_page_141 : decode b_Q_page 141 = .ok (.ifCond .ge 8, 3) := by decide +kernel
theorem d_Q_page_144 : decode b_Q_page 144 = .ok (.bipush (-2), 2) := by decide +kernel
theorem d_Q_page_146 : decode b_Q_page 146 = .ok (.goto 10, 3) := by decide +kernel
theorem d_Q_page_149 : decode b_Q_page 149 = .ok (.aload_n 0, 1) := by decide +kernel
theorem d_Q_page_150 : decode b_Q_page 150 = .ok (.getfield 50, 3) := by decide +kernel
theorem d_Q_page_153 : decode b_Q_page 153 = .ok (.iload 4, 2) := by decide +kernel
theorem d_Q_page_155 : decode b_Q_page 155 = .ok (.iaload, 1) := by decide +kernel
theorem d_Q_page_156 : decode b_Q_page 156 = .ok (.ireturn, 1) := by decide +kernel
theorem d_Q_page_157 : decode b_Q_page 157 = .ok (.iload 4, 2) := by decide +kernel
theorem d_Q_page_159 : decode b_Q_page 159 = .ok (.ifCond .lt 17, 3) := by decide +kernel
theorem d_Q_page_162 : decode b_Q_page 162 = .ok (.aload_n 0, 1) := by decide +kernel
theorem d_Q_page_163 : decode b_Q_page 163 = .ok (.getfield 41, 3) := by decide +kernel
theorem d_Q_page_166 : decode b_Q_page 166 = .ok (.iload 4, 2) := by decide +kernel
theorem d_Q_page_168 : decode b_Q_page 168 = .ok (.baload, 1) := by decide +kernel
theorem d_Q_page_169 : decode b_Q_page 169 = .ok (.ifCond .eq 7, 3) := by decide +kernel
theorem d_Q_page_172 : decode b_Q_page 172 = .ok (.iconst 1, 1) := by decide +kernel
theorem d_Q_page_173 : decode b_Q_page 173 = .ok (.goto 4, 3) := by decide +kernel
theorem d_Q_page_176 : decode b_Q_page 176 = .ok (.iconst 0, 1) := by decide +kernel
theorem d_Q_page_177 : decode b_Q_page 177 = .ok (.ireturn, 1) := by decide +kernel
theorem d_Q_page_178 : decode b_Q_page 178 = .ok (.iload 4, 2) := by decide +kernel
theorem d_Q_page_180 : decode b_Q_page 180 = .ok (.ifCond .lt 17, 3) := by decide +kernel
theorem d_Q_page_183 : decode b_Q_page 183 = .ok (.aload_n 0, 1) := by decide +kernel
theorem d_Q_page_184 : decode b_Q_page 184 = .ok (.getfield 44, 3) := by decide +kernel
theorem d_Q_page_187 : decode b_Q_page 187 = .ok (.iload 4, 2) := by decide +kernel
theorem d_Q_page_189 : decode b_Q_page 189 = .ok (.baload, 1) := by decide +kernel
theorem d_Q_page_190 : decode b_Q_page 190 = .ok (.ifCond .eq 7, 3) := by decide +kernel
theorem d_Q_page_193 : decode b_Q_page 193 = .ok (.iconst 1, 1) := by decide +kernel
theorem d_Q_page_194 : decode b_Q_page 194 = .ok (.goto 4, 3) := by decide +kernel
theorem d_Q_page_197 : decode b_Q_page 197 = .ok (.iconst 0, 1) := by decide +kernel
theorem d_Q_page_198 : decode b_Q_page 198 = .ok (.ireturn, 1) := by decide +kernel
theorem d_Q_page_199 : decode b_Q_page 199 = .ok (.iload 4, 2) := by decide +kernel
theorem d_Q_page_201 : decode b_Q_page 201 = .ok (.ifCond .ge 7, 3) := by decide +kernel
theorem d_Q_page_204 : decode b_Q_page 204 = .ok (.iconst 0, 1) := by decide +kernel
theorem d_Q_page_205 : decode b_Q_page 205 = .ok (.goto 9, 3) := by decide +kernel
theorem d_Q_page_208 : decode b_Q_page 208 = .ok (.aload_n 0, 1) := by decide +kernel
theorem d_Q_page_209 : decode b_Q_page 209 = .ok (.iload 4, 2) := by decide +kernel
theorem d_Q_page_211 : decode b_Q_page 211 = .ok (.invokevirtual 66, 3) := by decide +kernel
theorem d_Q_page_214 : decode b_Q_page 214 = .ok (.ireturn, 1) := by decide +kernel
theorem d_Q_printed_0 : decode b_Q_printed 0 = .ok (.iload_n 1, 1) := by decide +kernel
theorem d_Q_printed_1 : decode b_Q_printed 1 = .ok (.bipush 40, 2) := by decide +kernel
theorem d_Q_printed_3 : decode b_Q_printed 3 = .ok (.invokestatic 95, 3) := by decide +kernel
theorem d_Q_printed_6 : decode b_Q_printed 6 = .ok (.ifCond .eq 12, 3) := by decide +kernel
theorem d_Q_printed_9 : decode b_Q_printed 9 = .ok (.aload_n 0, 1) := by decide +kernel
theorem d_Q_printed_10 : decode b_Q_printed 10 = .ok (.getfield 56, 3) := by decide +kernel
theorem d_Q_printed_13 : decode b_Q_printed 13 = .ok (.iload_n 1, 1) := by decide +kernel
theorem d_Q_printed_14 : decode b_Q_printed 14 = .ok (.iaload, 1) := by decide +kernel
theorem d_Q_printed_15 : decode b_Q_printed 15 = .ok (.goto 4, 3) := by decide +kernel
theorem d_Q_printed_18 : decode b_Q_printed 18 = .ok (.iconst 0, 1) := by decide +kernel
theorem d_Q_printed_19 : decode b_Q_printed 19 = .ok (.ireturn, 1) := by decide +kernel
theorem d_Q_count_0 : decode b_Q_count 0 = .ok (.iconst 0, 1) := by decide +kernel
theorem d_Q_count_1 : decode b_Q_count 1 = .ok (.istore_n 2, 1) := by decide +kernel
theorem d_Q_count_2 : decode b_Q_count 2 = .ok (.iload_n 1, 1) := by decide +kernel
theorem d_Q_count_3 : decode b_Q_count 3 = .ok (.tableswitch 171 0 12 #[65, 70, 97, 102, 107, 134, 161, 171, 171, 171, 171, 171, 166], 65) := by decide +kernel
theorem d_Q_count_68 : decode b_Q_count 68 = .ok (.aload_n 0, 1) := by decide +kernel
theorem d_Q_count_69 : decode b_Q_count 69 = .ok (.getfield 123, 3) := by decide +kernel
theorem d_Q_count_72 : decode b_Q_count 72 = .ok (.ireturn, 1) := by decide +kernel
theorem d_Q_count_73 : decode b_Q_count 73 = .ok (.iconst 0, 1) := by decide +kernel
theorem d_Q_count_74 : decode b_Q_count 74 = .ok (.istore_n 3, 1) := by decide +kernel
theorem d_Q_count_75 : decode b_Q_count 75 = .ok (.iload_n 3, 1) := by decide +kernel
theorem d_Q_count_76 : decode b_Q_count 76 = .ok (.iconst 4, 1) := by decide +kernel
theorem d_Q_count_77 : decode b_Q_count 77 = .ok (.if_icmp .ge 21, 3) := by decide +kernel
theorem d_Q_count_80 : decode b_Q_count 80 = .ok (.aload_n 0, 1) := by decide +kernel
theorem d_Q_count_81 : decode b_Q_count 81 = .ok (.getfield 7, 3) := by decide +kernel
theorem d_Q_count_84 : decode b_Q_count 84 = .ok (.iload_n 3, 1) := by decide +kernel
theorem d_Q_count_85 : decode b_Q_count 85 = .ok (.iaload, 1) := by decide +kernel
theorem d_Q_count_86 : decode b_Q_count 86 = .ok (.ifCond .eq 6, 3) := by decide +kernel
theorem d_Q_count_89 : decode b_Q_count 89 = .ok (.iinc 2 1, 3) := by decide +kernel
theorem d_Q_count_92 : decode b_Q_count 92 = .ok (.iinc 3 1, 3) := by decide +kernel
theorem d_Q_count_95 : decode b_Q_count 95 = .ok (.goto (-20), 3) := by decide +kernel
theorem d_Q_count_98 : decode b_Q_count 98 = .ok (.iload_n 2, 1) := by decide +kernel
theorem d_Q_count_99 : decode b_Q_count 99 = .ok (.ireturn, 1) := by decide +kernel
theorem d_Q_count_100 : decode b_Q_count 100 = .ok (.aload_n 0, 1) := by decide +kernel
theorem d_Q_count_101 : decode b_Q_count 101 = .ok (.getfield 62, 3) := by decide +kernel
theorem d_Q_count_104 : decode b_Q_count 104 = .ok (.ireturn, 1) := by decide +kernel
theorem d_Q_count_105 : decode b_Q_count 105 = .ok (.aload_n 0, 1) := by decide +kernel
theorem d_Q_count_106 : decode b_Q_count 106 = .ok (.getfield 130, 3) := by decide +kernel
theorem d_Q_count_109 : decode b_Q_count 109 = .ok (.ireturn, 1) := by decide +kernel
theorem d_Q_count_110 : decode b_Q_count 110 = .ok (.iconst 0, 1) := by decide +kernel
theorem d_Q_count_111 : decode b_Q_count 111 = .ok (.istore_n 3, 1) := by decide +kernel
theorem d_Q_count_112 : decode b_Q_count 112 = .ok (.iload_n 3, 1) := by decide +kernel
theorem d_Q_count_113 : decode b_Q_count 113 = .ok (.bipush 6, 2) := by decide +kernel
theorem d_Q_count_115 : decode b_Q_count 115 = .ok (.if_icmp .ge 20, 3) := by decide +kernel
theorem d_Q_count_118 : decode b_Q_count 118 = .ok (.aload_n 0, 1) := by decide +kernel
theorem d_Q_count_119 : decode b_Q_count 119 = .ok (.iload_n 3, 1) := by decide +kernel
theorem d_Q_count_120 : decode b_Q_count 120 = .ok (.invokevirtual 74, 3) := by decide +kernel
theorem d_Q_count_123 : decode b_Q_count 123 = .ok (.ifCond .lt 6, 3) := by decide +kernel
theorem d_Q_count_126 : decode b_Q_count 126 = .ok (.iinc 2 1, 3) := by decide +kernel
theorem d_Q_count_129 : decode b_Q_count 129 = .ok (.iinc 3 1, 3) := by decide +kernel
theorem d_Q_count_132 : decode b_Q_count 132 = .ok (.goto (-20), 3) := by decide +kernel
theorem d_Q_count_135 : decode b_Q_count 135 = .ok (.iload_n 2, 1) := by decide +kernel
theorem d_Q_count_136 : decode b_Q_count 136 = .ok (.ireturn, 1) := by decide +kernel
theorem d_Q_count_137 : decode b_Q_count 137 = .ok (.iconst 0, 1) := by decide +kernel
theorem d_Q_count_138 : decode b_Q_count 138 = .ok (.istore_n 3, 1) := by decide +kernel
theorem d_Q_count_139 : decode b_Q_count 139 = .ok (.iload_n 3, 1) := by decide +kernel
theorem d_Q_count_140 : decode b_Q_count 140 = .ok (.bipush 32, 2) := by decide +kernel
theorem d_Q_count_142 : decode b_Q_count 142 = .ok (.if_icmp .ge 20, 3) := by decide +kernel
theorem d_Q_count_145 : decode b_Q_count 145 = .ok (.aload_n 0, 1) := by decide +kernel
theorem d_Q_count_146 : decode b_Q_count 146 = .ok (.iload_n 3, 1) := by decide +kernel
theorem d_Q_count_147 : decode b_Q_count 147 = .ok (.invokevirtual 70, 3) := by decide +kernel
theorem d_Q_count_150 : decode b_Q_count 150 = .ok (.ifCond .eq 6, 3) := by decide +kernel
theorem d_Q_count_153 : decode b_Q_count 153 = .ok (.iinc 2 1, 3) := by decide +kernel
theorem d_Q_count_156 : decode b_Q_count 156 = .ok (.iinc 3 1, 3) := by decide +kernel
theorem d_Q_count_159 : decode b_Q_count 159 = .ok (.goto (-20), 3) := by decide +kernel
theorem d_Q_count_162 : decode b_Q_count 162 = .ok (.iload_n 2, 1) := by decide +kernel
theorem d_Q_count_163 : decode b_Q_count 163 = .ok (.ireturn, 1) := by decide +kernel
theorem d_Q_count_164 : decode b_Q_count 164 = .ok (.aload_n 0, 1) := by decide +kernel
theorem d_Q_count_165 : decode b_Q_count 165 = .ok (.getfield 77, 3) := by decide +kernel
theorem d_Q_count_168 : decode b_Q_count 168 = .ok (.ireturn, 1) := by decide +kernel
theorem d_Q_count_169 : decode b_Q_count 169 = .ok (.aload_n 0, 1) := by decide +kernel
theorem d_Q_count_170 : decode b_Q_count 170 = .ok (.getfield 143, 3) := by decide +kernel
theorem d_Q_count_173 : decode b_Q_count 173 = .ok (.ireturn, 1) := by decide +kernel
theorem d_Q_count_174 : decode b_Q_count 174 = .ok (.iload_n 1, 1) := by decide +kernel
theorem d_Q_count_175 : decode b_Q_count 175 = .ok (.bipush 14, 2) := by decide +kernel
theorem d_Q_count_177 : decode b_Q_count 177 = .ok (.invokestatic 95, 3) := by decide +kernel
theorem d_Q_count_180 : decode b_Q_count 180 = .ok (.ifCond .eq 12, 3) := by decide +kernel
theorem d_Q_count_183 : decode b_Q_count 183 = .ok (.aload_n 0, 1) := by decide +kernel
theorem d_Q_count_184 : decode b_Q_count 184 = .ok (.getfield 59, 3) := by decide +kernel
theorem d_Q_count_187 : decode b_Q_count 187 = .ok (.iload_n 1, 1) := by decide +kernel
theorem d_Q_count_188 : decode b_Q_count 188 = .ok (.iaload, 1) := by decide +kernel
theorem d_Q_count_189 : decode b_Q_count 189 = .ok (.goto 4, 3) := by decide +kernel
theorem d_Q_count_192 : decode b_Q_count 192 = .ok (.iconst (-1), 1) := by decide +kernel
theorem d_Q_count_193 : decode b_Q_count 193 = .ok (.ireturn, 1) := by decide +kernel
