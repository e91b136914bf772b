theorem d_Q_spawn_0 : decode b_Q_spawn 0 = .ok (.aload_n 0, 1) := by decide +kernel
theorem d_Q_spawn_1 : decode b_Q_spawn 1 = .ok (.bipush (-2), 2) := by decide +kernel
theorem d_Q_spawn_3 : decode b_Q_spawn 3 = .ok (.invokevirtual 102, 3) := by decide +kernel
theorem d_Q_spawn_6 : decode b_Q_spawn 6 = .ok (.istore_n 1, 1) := by decide +kernel
theorem d_Q_spawn_7 : decode b_Q_spawn 7 = .ok (.iload_n 1, 1) := by decide +kernel
theorem d_Q_spawn_8 : decode b_Q_spawn 8 = .ok (.ifCond .ge 8, 3) := by decide +kernel
theorem d_Q_spawn_11 : decode b_Q_spawn 11 = .ok (.bipush (-3), 2) := by decide +kernel
theorem d_Q_spawn_13 : decode b_Q_spawn 13 = .ok (.goto 4, 3) := by decide +kernel
theorem d_Q_spawn_16 : decode b_Q_spawn 16 = .ok (.iload_n 1, 1) := by decide +kernel
theorem d_Q_spawn_17 : decode b_Q_spawn 17 = .ok (.ireturn, 1) := by decide +kernel
theorem d_Q_begin_0 : decode b_Q_begin 0 = .ok (.iconst 0, 1) := by decide +kernel
theorem d_Q_begin_1 : decode b_Q_begin 1 = .ok (.istore_n 2, 1) := by decide +kernel
theorem d_Q_begin_2 : decode b_Q_begin 2 = .ok (.iload_n 2, 1) := by decide +kernel
theorem d_Q_begin_3 : decode b_Q_begin 3 = .ok (.iconst 4, 1) := by decide +kernel
theorem d_Q_begin_4 : decode b_Q_begin 4 = .ok (.if_icmp .ge 82, 3) := by decide +kernel
theorem d_Q_begin_7 : decode b_Q_begin 7 = .ok (.aload_n 0, 1) := by decide +kernel
theorem d_Q_begin_8 : decode b_Q_begin 8 = .ok (.getfield 7, 3) := by decide +kernel
theorem d_Q_begin_11 : decode b_Q_begin 11 = .ok (.iload_n 2, 1) := by decide +kernel
theorem d_Q_begin_12 : decode b_Q_begin 12 = .ok (.iaload, 1) := by decide +kernel
theorem d_Q_begin_13 : decode b_Q_begin 13 = .ok (.ifCond .eq 6, 3) := by decide +kernel
theorem d_Q_begin_16 : decode b_Q_begin 16 = .ok (.goto 64, 3) := by decide +kernel
theorem d_Q_begin_19 : decode b_Q_begin 19 = .ok (.aload_n 0, 1) := by decide +kernel
theorem d_Q_begin_20 : decode b_Q_begin 20 = .ok (.getfield 7, 3) := by decide +kernel
theorem d_Q_begin_23 : decode b_Q_begin 23 = .ok (.iload_n 2, 1) := by decide +kernel
theorem d_Q_begin_24 : decode b_Q_begin 24 = .ok (.iconst 1, 1) := by decide +kernel
theorem d_Q_begin_25 : decode b_Q_begin 25 = .ok (.iastore, 1) := by decide +kernel
theorem d_Q_begin_26 : decode b_Q_begin 26 = .ok (.aload_n 0, 1) := by decide +kernel
theorem d_Q_begin_27 : decode b_Q_begin 27 = .ok (.getfield 13, 3) := by decide +kernel
theorem d_Q_begin_30 : decode b_Q_begin 30 = .ok (.iload_n 2, 1) := by decide +kernel
theorem d_Q_begin_31 : decode b_Q_begin 31 = .ok (.iconst 0, 1) := by decide +kernel
theorem d_Q_begin_32 : decode b_Q_begin 32 = .ok (.iastore, 1) := by decide +kernel
theorem d_Q_begin_33 : decode b_Q_begin 33 = .ok (.aload_n 0, 1) := by decide +kernel
theorem d_Q_begin_34 : decode b_Q_begin 34 = .ok (.getfield 16, 3) := by decide +kernel
theorem d_Q_begin_37 : decode b_Q_begin 37 = .ok (.iload_n 2, 1) := by decide +kernel
theorem d_Q_begin_38 : decode b_Q_begin 38 = .ok (.iload_n 1, 1) := by decide +kernel
theorem d_Q_begin_39 : decode b_Q_begin 39 = .ok (.iastore, 1) := by decide +kernel
theorem d_Q_begin_40 : decode b_Q_begin 40 = .ok (.aload_n 0, 1) := by decide +kernel
theorem d_Q_begin_41 : decode b_Q_begin 41 = .ok (.getfield 25, 3) := by decide +kernel
theorem d_Q_begin_44 : decode b_Q_begin 44 = .ok (.iload_n 2, 1) := by decide +kernel
theorem d_Q_begin_45 : decode b_Q_begin 45 = .ok (.iconst 0, 1) := by decide +kernel
theorem d_Q_begin_46 : decode b_Q_begin 46 = .ok (.iastore, 1) := by decide +kernel
theorem d_Q_begin_47 : decode b_Q_begin 47 = .ok (.aload_n 0, 1) := by decide +kernel
theorem d_Q_begin_48 : decode b_Q_begin 48 = .ok (.getfield 28, 3) := by decide +kernel
theorem d_Q_begin_51 : decode b_Q_begin 51 = .ok (.iload_n 2, 1) := by decide +kernel
theorem d_Q_begin_52 : decode b_Q_begin 52 = .ok (.iconst 0, 1) := by decide +kernel
theorem d_Q_begin_53 : decode b_Q_begin 53 = .ok (.iastore, 1) := by decide +kernel
theorem d_Q_begin_54 : decode b_Q_begin 54 = .ok (.iconst 0, 1) := by decide +kernel
theorem d_Q_begin_55 : decode b_Q_begin 55 = .ok (.istore_n 3, 1) := by decide +kernel
theorem d_Q_begin_56 : decode b_Q_begin 56 = .ok (.iload_n 3, 1) := by decide +kernel
theorem d_Q_begin_57 : decode b_Q_begin 57 = .ok (.iconst 4, 1) := by decide +kernel
theorem d_Q_begin_58 : decode b_Q_begin 58 = .ok (.if_icmp .ge 20, 3) := by decide +kernel
theorem d_Q_begin_61 : decode b_Q_begin 61 = .ok (.aload_n 0, 1) := by decide +kernel
theorem d_Q_begin_62 : decode b_Q_begin 62 = .ok (.getfield 31, 3) := by decide +kernel
theorem d_Q_begin_65 : decode b_Q_begin 65 = .ok (.iconst 4, 1) := by decide +kernel
theorem d_Q_begin_66 : decode b_Q_begin 66 = .ok (.iload_n 2, 1) := by decide +kernel
theorem d_Q_begin_67 : decode b_Q_begin 67 = .ok (.imul, 1) := by decide +kernel
theorem d_Q_begin_68 : decode b_Q_begin 68 = .ok (.iload_n 3, 1) := by decide +kernel
theorem d_Q_begin_69 : decode b_Q_begin 69 = .ok (.iadd, 1) := by decide +kernel
theorem d_Q_begin_70 : decode b_Q_begin 70 = .ok (.iconst 0, 1) := by decide +kernel
theorem d_Q_begin_71 : decode b_Q_begin 71 = .ok (.iastore, 1) := by decide +kernel
theorem d_Q_begin_72 : decode b_Q_begin 72 = .ok (.iinc 3 1, 3) := by decide +kernel
theorem d_Q_begin_75 : decode b_Q_begin 75 = .ok (.goto (-19), 3) := by decide +kernel
theorem d_Q_begin_78 : decode b_Q_begin 78 = .ok (.iload_n 2, 1) := by decide +kernel
theorem d_Q_begin_79 : decode b_Q_begin 79 = .ok (.ireturn, 1) := by decide +kernel
theorem d_Q_begin_80 : decode b_Q_begin 80 = .ok (.iinc 2 1, 3) := by decide +kernel
theorem d_Q_begin_83 : decode b_Q_begin 83 = .ok (.goto (-81), 3) := by decide +kernel
theorem d_Q_begin_86 : decode b_Q_begin 86 = .ok (.bipush (-2), 2) := by decide +kernel
theorem d_Q_begin_88 : decode b_Q_begin 88 = .ok (.ireturn, 1) := by decide +kernel
theorem d_Q_poke_0 : decode b_Q_poke 0 = .ok (.aload_n 0, 1) := by decide +kernel
theorem d_Q_poke_1 : decode b_Q_poke 1 = .ok (.iload_n 1, 1) := by decide +kernel
theorem d_Q_poke_2 : decode b_Q_poke 2 = .ok (.invokevirtual 105, 3) := by decide +kernel
theorem d_Q_poke_5 : decode b_Q_poke 5 = .ok (.ifCond .eq 12, 3) := by decide +kernel
theorem d_Q_poke_8 : decode b_Q_poke 8 = .ok (.iload_n 2, 1) := by decide +kernel
theorem d_Q_poke_9 : decode b_Q_poke 9 = .ok (.bipush 64, 2) := by decide +kernel
theorem d_Q_poke_11 : decode b_Q_poke 11 = .ok (.invokestatic 95, 3) := by decide +kernel
theorem d_Q_poke_14 : decode b_Q_poke 14 = .ok (.ifCond .ne 5, 3) := by decide +kernel
theorem d_Q_poke_17 : decode b_Q_poke 17 = .ok (.iconst (-1), 1) := by decide +kernel
theorem d_Q_poke_18 : decode b_Q_poke 18 = .ok (.ireturn, 1) := by decide +kernel
theorem d_Q_poke_19 : decode b_Q_poke 19 = .ok (.aload_n 0, 1) := by decide +kernel
theorem d_Q_poke_20 : decode b_Q_poke 20 = .ok (.getfield 25, 3) := by decide +kernel
theorem d_Q_poke_23 : decode b_Q_poke 23 = .ok (.iload_n 1, 1) := by decide +kernel
theorem d_Q_poke_24 : decode b_Q_poke 24 = .ok (.iaload, 1) := by decide +kernel
theorem d_Q_poke_25 : decode b_Q_poke 25 = .ok (.istore 4, 2) := by decide +kernel
theorem d_Q_poke_27 : decode b_Q_poke 27 = .ok (.aload_n 0, 1) := by decide +kernel
theorem d_Q_poke_28 : decode b_Q_poke 28 = .ok (.getfield 53, 3) := by decide +kernel
theorem d_Q_poke_31 : decode b_Q_poke 31 = .ok (.aload_n 0, 1) := by decide +kernel
theorem d_Q_poke_32 : decode b_Q_poke 32 = .ok (.iload_n 1, 1) := by decide +kernel
theorem d_Q_poke_33 : decode b_Q_poke 33 = .ok (.iload_n 2, 1) := by decide +kernel
theorem d_Q_poke_34 : decode b_Q_poke 34 = .ok (.iconst 1, 1) := by decide +kernel
theorem d_Q_poke_35 : decode b_Q_poke 35 = .ok (.invokevirtual 108, 3) := by decide +kernel
theorem d_Q_poke_38 : decode b_Q_poke 38 = .ok (.iload_n 3, 1) := by decide +kernel
theorem d_Q_poke_39 : decode b_Q_poke 39 = .ok (.iastore, 1) := by decide +kernel
theorem d_Q_poke_40 : decode b_Q_poke 40 = .ok (.aload_n 0, 1) := by decide +kernel
theorem d_Q_poke_41 : decode b_Q_poke 41 = .ok (.getfield 25, 3) := by decide +kernel
theorem d_Q_poke_44 : decode b_Q_poke 44 = .ok (.iload_n 1, 1) := by decide +kernel
theorem d_Q_poke_45 : decode b_Q_poke 45 = .ok (.iaload, 1) := by decide +kernel
theorem d_Q_poke_46 : decode b_Q_poke 46 = .ok (.iload 4, 2) := by decide +kernel
theorem d_Q_poke_48 : decode b_Q_poke 48 = .ok (.isub, 1) := by decide +kernel
theorem d_Q_poke_49 : decode b_Q_poke 49 = .ok (.ireturn, 1) := by decide +kernel
theorem d_Q_isAlive_0 : decode b_Q_isAlive 0 = .ok (.aload_n 0, 1) := by decide +kernel
theorem d_Q_isAlive_1 : decode b_Q_isAlive 1 = .ok (.iload_n 1, 1) := by decide +kernel
theorem d_Q_isAlive_2 : decode b_Q_isAlive 2 = .ok (.invokevirtual 99, 3) := by decide +kernel
theorem d_Q_isAlive_5 : decode b_Q_isAlive 5 = .ok (.ifCond .eq 17, 3) := by decide +kernel
theorem d_Q_isAlive_8 : decode b_Q_isAlive 8 = .ok (.aload_n 0, 1) := by decide +kernel
theorem d_Q_isAlive_9 : decode b_Q_isAlive 9 = .ok (.getfield 7, 3) := by decide +kernel
theorem d_Q_isAlive_12 : decode b_Q_isAlive 12 = .ok (.iload_n 1, 1) := by decide +kernel
theorem d_Q_isAlive_13 : decode b_Q_isAlive 13 = .ok (.iaload, 1) := by decide +kernel
theorem d_Q_isAlive_14 : decode b_Q_isAlive 14 = .ok (.iconst 4, 1) := by decide +kernel
theorem d_Q_isAlive_15 : decode b_Q_isAlive 15 = .ok (.if_icmp .eq 7, 3) := by decide +kernel
theorem d_Q_isAlive_18 : decode b_Q_isAlive 18 = .ok (.iconst 1, 1) := by decide +kernel
theorem d_Q_isAlive_19 : decode b_Q_isAlive 19 = .ok (.goto 4, 3) := by decide +kernel
theorem d_Q_isAlive_22 : decode b_Q_isAlive 22 = .ok (.iconst 0, 1) := by decide +kernel
theorem d_Q_isAlive_23 : decode b_Q_isAlive 23 = .ok (.ireturn, 1) := by decide +kernel
theorem d_Q_isThere_0 : decode b_Q_isThere 0 = .ok (.iload_n 1, 1) := by decide +kernel
theorem d_Q_isThere_1 : decode b_Q_isThere 1 = .ok (.iconst 4, 1) := by decide +kernel
theorem d_Q_isThere_2 : decode b_Q_isThere 2 = .ok (.invokestatic 95, 3) := by decide +kernel
theorem d_Q_isThere_5 : decode b_Q_isThere 5 = .ok (.ifCond .eq 16, 3) := by decide +kernel
theorem d_Q_isThere_8 : decode b_Q_isThere 8 = .ok (.aload_n 0, 1) := by decide +kernel
theorem d_Q_isThere_9 : decode b_Q_isThere 9 = .ok (.getfield 7, 3) := by decide +kernel
theorem d_Q_isThere_12 : decode b_Q_isThere 12 = .ok (.iload_n 1, 1) := by decide +kernel
theorem d_Q_isThere_13 : decode b_Q_isThere 13 = .ok (.iaload, 1) := by decide +kernel
theorem d_Q_isThere_14 : decode b_Q_isThere 14 = .ok (.ifCond .eq 7, 3) := by decide +kernel
theorem d_Q_isThere_17 : decode b_Q_isThere 17 = .ok (.iconst 1, 1) := by decide +kernel
theorem d_Q_isThere_18 : decode b_Q_isThere 18 = .ok (.goto 4, 3) := by decide +kernel
theorem d_Q_isThere_21 : decode b_Q_isThere 21 = .ok (.iconst 0, 1) := by decide +kernel
theorem d_Q_isThere_22 : decode b_Q_isThere 22 = .ok (.ireturn, 1) := by decide +kernel
theorem d_Q_in_0 : decode b_Q_in 0 = .ok (.iload_n 0, 1) := by decide +kernel
theorem d_Q_in_1 : decode b_Q_in 1 = .ok (.ifCond .lt 12, 3) := by decide +kernel
theorem d_Q_in_4 : decode b_Q_in 4 = .ok (.iload_n 0, 1) := by decide +kernel
theorem d_Q_in_5 : decode b_Q_in 5 = .ok (.iload_n 1, 1) := by decide +kernel
theorem d_Q_in_6 : decode b_Q_in 6 = .ok (.if_icmp .ge 7, 3) := by decide +kernel
theorem d_Q_in_9 : decode b_Q_in 9 = .ok (.iconst 1, 1) := by decide +kernel
theorem d_Q_in_10 : decode b_Q_in 10 = .ok (.goto 4, 3) := by decide +kernel
theorem d_Q_in_13 : decode b_Q_in 13 = .ok (.iconst 0, 1) := by decide +kernel
theorem d_Q_in_14 : decode b_Q_in 14 = .ok (.ireturn, 1) := by decide +kernel
theorem d_Q_reach_0 : decode b_Q_reach 0 = .ok (.bipush 8, 2) := by decide +kernel
theorem d_Q_reach_2 : decode b_Q_reach 2 = .ok (.iload_n 1, 1) := by decide +kernel
theorem d_Q_reach_3 : decode b_Q_reach 3 = .ok (.imul, 1) := by decide +kernel
theorem d_Q_reach_4 : decode b_Q_reach 4 = .ok (.iload_n 2, 1) := by decide +kernel
theorem d_Q_reach_5 : decode b_Q_reach 5 = .ok (.bipush 8, 2) := by decide +kernel
theorem d_Q_reach_7 : decode b_Q_reach 7 = .ok (.idiv, 1) := by decide +kernel
theorem d_Q_reach_8 : decode b_Q_reach 8 = .ok (.iadd, 1) := by decide +kernel
theorem d_Q_reach_9 : decode b_Q_reach 9 = .ok (.istore 4, 2) := by decide +kernel
theorem d_Q_reach_11 : decode b_Q_reach 11 = .ok (.aload_n 0, 1) := by decide +kernel
theorem d_Q_reach_12 : decode b_Q_reach 12 = .ok (.getfield 34, 3) := by decide +kernel
theorem d_Q_reach_15 : decode b_Q_reach 15 = .ok (.iload 4, 2) := by decide +kernel
theorem d_Q_reach_17 : decode b_Q_reach 17 = .ok (.iaload, 1) := by decide +kernel
theorem d_Q_reach_18 : decode b_Q_reach 18 = .ok (.ifCond .ge 14, 3) := by decide +kernel
theorem d_Q_reach_21 : decode b_Q_reach 21 = .ok (.aload_n 0, 1) := by decide +kernel
theorem d_Q_reach_22 : decode b_Q_reach 22 = .ok (.getfield 34, 3) := by decide +kernel
theorem d_Q_reach_25 : decode b_Q_reach 25 = .ok (.iload 4, 2) := by decide +kernel
theorem d_Q_reach_27 : decode b_Q_reach 27 = .ok (.aload_n 0, 1) := by decide +kernel
theorem d_Q_reach_28 : decode b_Q_reach 28 = .ok (.invokevirtual 88, 3) := by decide +kernel
theorem d_Q_reach_31 : decode b_Q_reach 31 = .ok (.iastore, 1) := by decide +kernel
theorem d_Q_reach_32 : decode b_Q_reach 32 = .ok (.aload_n 0, 1) := by decide +kernel
theorem d_Q_reach_33 : decode b_Q_reach 33 = .ok (.getfield 34, 3) := by decide +kernel
theorem d_Q_reach_36 : decode b_Q_reach 36 = .ok (.iload 4, 2) := by decide +kernel
theorem d_Q_reach_38 : decode b_Q_reach 38 = .ok (.iaload, 1) := by decide +kernel
theorem d_Q_reach_39 : decode b_Q_reach 39 = .ok (.istore 5, 2) := by decide +kernel
theorem d_Q_reach_41 : decode b_Q_reach 41 = .ok (.aload_n 0, 1) := by decide +kernel
theorem d_Q_reach_42 : decode b_Q_reach 42 = .ok (.iload_n 1, 1) := by decide +kernel
theorem d_Q_reach_43 : decode b_Q_reach 43 = .ok (.iload 5, 2) := by decide +kernel
theorem d_Q_reach_45 : decode b_Q_reach 45 = .ok (.iconst 0, 1) := by decide +kernel
theorem d_Q_reach_46 : decode b_Q_reach 46 = .ok (.invokevirtual 91, 3) := by decide +kernel
theorem d_Q_reach_49 : decode b_Q_reach 49 = .ok (.iload_n 3, 1) := by decide +kernel
theorem d_Q_reach_50 : decode b_Q_reach 50 = .ok (.ifCond .eq 93, 3) := by decide +kernel
theorem d_Q_reach_53 : decode b_Q_reach 53 = .ok (.aload_n 0, 1) := by decide +kernel
theorem d_Q_reach_54 : decode b_Q_reach 54 = .ok (.iload 5, 2) := by decide +kernel
theorem d_Q_reach_56 : decode b_Q_reach 56 = .ok (.invokevirtual 66, 3) := by decide +kernel
theorem d_Q_reach_59 : decode b_Q_reach 59 = .ok (.iconst 1, 1) := by decide +kernel
theorem d_Q_reach_60 : decode b_Q_reach 60 = .ok (.if_icmp .le 83, 3) := by decide +kernel
theorem d_Q_reach_63 : decode b_Q_reach 63 = .ok (.aload_n 0, 1) := by decide +kernel
theorem d_Q_reach_64 : decode b_Q_reach 64 = .ok (.invokevirtual 88, 3) := by decide +kernel
theorem d_Q_reach_67 : decode b_Q_reach 67 = .ok (.istore 6, 2) := by decide +kernel
theorem d_Q_reach_69 : decode b_Q_reach 69 = .ok (.aload_n 0, 1) := by decide +kernel
theorem d_Q_reach_70 : decode b_Q_reach 70 = .ok (.getfield 34, 3) := by decide +kernel
theorem d_Q_reach_73 : decode b_Q_reach 73 = .ok (.iload 4, 2) := by decide +kernel
theorem d_Q_reach_75 : decode b_Q_reach 75 = .ok (.iload 6, 2) := by decide +kernel
theorem d_Q_reach_77 : decode b_Q_reach 77 = .ok (.iastore, 1) := by decide +kernel
theorem d_Q_reach_78 : decode b_Q_reach 78 = .ok (.iconst 0, 1) := by decide +kernel
theorem d_Q_reach_79 : decode b_Q_reach 79 = .ok (.istore 7, 2) := by decide +kernel
theorem d_Q_reach_81 : decode b_Q_reach 81 = .ok (.iload 7, 2) := by decide +kernel
theorem d_Q_reach_83 : decode b_Q_reach 83 = .ok (.bipush 8, 2) := by decide +kernel
theorem d_Q_reach_85 : decode b_Q_reach 85 = .ok (.if_icmp .ge 35, 3) := by decide +kernel
theorem d_Q_reach_88 : decode b_Q_reach 88 = .ok (.aload_n 0, 1) := by decide +kernel
theorem d_Q_reach_89 : decode b_Q_reach 89 = .ok (.getfield 53, 3) := by decide +kernel
theorem d_Q_reach_92 : decode b_Q_reach 92 = .ok (.bipush 8, 2) := by decide +kernel
theorem d_Q_reach_94 : decode b_Q_reach 94 = .ok (.iload 6, 2) := by decide +kernel
theorem d_Q_reach_96 : decode b_Q_reach 96 = .ok (.imul, 1) := by decide +kernel
theorem d_Q_reach_97 : decode b_Q_reach 97 = .ok (.iload 7, 2) := by decide +kernel
theorem d_Q_reach_99 : decode b_Q_reach 99 = .ok (.iadd, 1) := by decide +kernel
theorem d_Q_reach_100 : decode b_Q_reach 100 = .ok (.aload_n 0, 1) := by decide +kernel
theorem d_Q_reach_101 : decode b_Q_reach 101 = .ok (.getfield 53, 3) := by decide +kernel
theorem d_Q_reach_104 : decode b_Q_reach 104 = .ok (.bipush 8, 2) := by decide +kernel
theorem d_Q_reach_106 : decode b_Q_reach 106 = .ok (.iload 5, 2) := by decide +kernel
theorem d_Q_reach_108 : decode b_Q_reach 108 = .ok (.imul, 1) := by decide +kernel
theorem d_Q_reach_109 : decode b_Q_reach 109 = .ok (.iload 7, 2) := by decide +kernel
theorem d_Q_reach_111 : decode b_Q_reach 111 = .ok (.iadd, 1) := by decide +kernel
theorem d_Q_reach_112 : decode b_Q_reach 112 = .ok (.iaload, 1) := by decide +kernel
theorem d_Q_reach_113 : decode b_Q_reach 113 = .ok (.iastore, 1) := by decide +kernel
theorem d_Q_reach_114 : decode b_Q_reach 114 = .ok (.iinc 7 1, 3) := by decide +kernel
theorem d_Q_reach_117 : decode b_Q_reach 117 = .ok (.goto (-36), 3) := by decide +kernel
theorem d_Q_reach_120 : decode b_Q_reach 120 = .ok (.aload_n 0, 1) := by decide +kernel
theorem d_Q_reach_121 : decode b_Q_reach 121 = .ok (.getfield 59, 3) := by decide +kernel
theorem d_Q_reach_124 : decode b_Q_reach 124 = .ok (.bipush 10, 2) := by decide +kernel
theorem d_Q_reach_126 : decode b_Q_reach 126 = .ok (.dup2, 1) := by decide +kernel
theorem d_Q_reach_127 : decode b_Q_reach 127 = .ok (.iaload, 1) := by decide +kernel
theorem d_Q_reach_128 : decode b_Q_reach 128 = .ok (.iconst 1, 1) := by decide +kernel
theorem d_Q_reach_129 : decode b_Q_reach 129 = .ok (.iadd, 1) := by decide +kernel
theorem d_Q_reach_130 : decode b_Q_reach 130 = .ok (.iastore, 1) := by decide +kernel
theorem d_Q_reach_131 : decode b_Q_reach 131 = .ok (.aload_n 0, 1) := by decide +kernel
theorem d_Q_reach_132 : decode b_Q_reach 132 = .ok (.iload_n 1, 1) := by decide +kernel
theorem d_Q_reach_133 : decode b_Q_reach 133 = .ok (.iload 6, 2) := by decide +kernel
theorem d_Q_reach_135 : decode b_Q_reach 135 = .ok (.iconst 1, 1) := by decide +kernel
theorem d_Q_reach_136 : decode b_Q_reach 136 = .ok (.invokevirtual 91, 3) := by decide +kernel
theorem d_Q_reach_139 : decode b_Q_reach 139 = .ok (.iload 6, 2) := by decide +kernel
theorem d_Q_reach_141 : decode b_Q_reach 141 = .ok (.istore 5, 2) := by decide +kernel
theorem d_Q_reach_143 : decode b_Q_reach 143 = .ok (.aload_n 0, 1) := by decide +kernel
theorem d_Q_reach_144 : decode b_Q_reach 144 = .ok (.getfield 41, 3) := by decide +kernel
theorem d_Q_reach_147 : decode b_Q_reach 147 = .ok (.iload 5, 2) := by decide +kernel
theorem d_Q_reach_149 : decode b_Q_reach 149 = .ok (.iconst 1, 1) := by decide +kernel
theorem d_Q_reach_150 : decode b_Q_reach 150 = .ok (.bastore, 1) := by decide +kernel
theorem d_Q_reach_151 : decode b_Q_reach 151 = .ok (.iload_n 3, 1) := by decide +kernel
theorem d_Q_reach_152 : decode b_Q_reach 152 = .ok (.ifCond .eq 11, 3) := by decide +kernel
theorem d_Q_reach_155 : decode b_Q_reach 155 = .ok (.aload_n 0, 1) := by decide +kernel
theorem d_Q_reach_156 : decode b_Q_reach 156 = .ok (.getfield 44, 3) := by decide +kernel
theorem d_Q_reach_159 : decode b_Q_reach 159 = .ok (.iload 5, 2) := by decide +kernel
theorem d_Q_reach_161 : decode b_Q_reach 161 = .ok (.iconst 1, 1) := by decide +kernel
theorem d_Q_reach_162 : decode b_Q_reach 162 = .ok (.bastore, 1) := by decide +kernel
theorem d_Q_reach_163 : decode b_Q_reach 163 = .ok (.bipush 8, 2) := by decide +kernel
theorem d_Q_reach_165 : decode b_Q_reach 165 = .ok (.iload 5, 2) := by decide +kernel
theorem d_Q_reach_167 : decode b_Q_reach 167 = .ok (.imul, 1) := by decide +kernel
theorem d_Q_reach_168 : decode b_Q_reach 168 = .ok (.iload_n 2, 1) := by decide +kernel
theorem d_Q_reach_169 : decode b_Q_reach 169 = .ok (.bipush 8, 2) := by decide +kernel
theorem d_Q_reach_171 : decode b_Q_reach 171 = .ok (.irem, 1) := by decide +kernel
theorem d_Q_reach_172 : decode b_Q_reach 172 = .ok (.iadd, 1) := by decide +kernel
theorem d_Q_reach_173 : decode b_Q_reach 173 = .ok (.ireturn, 1) := by decide +kernel
theorem d_Q_fresh_0 : decode b_Q_fresh 0 = .ok (.iconst 0, 1) := by decide +kernel
theorem d_Q_fresh_1 : decode b_Q_fresh 1 = .ok (.istore_n 1, 1) := by decide +kernel
theorem d_Q_fresh_2 : decode b_Q_fresh 2 = .ok (.aload_n 0, 1) := by decide +kernel
theorem d_Q_fresh_3 : decode b_Q_fresh 3 = .ok (.getfield 37, 3) := by decide +kernel
theorem d_Q_fresh_6 : decode b_Q_fresh 6 = .ok (.iload_n 1, 1) := by decide +kernel
theorem d_Q_fresh_7 : decode b_Q_fresh 7 = .ok (.baload, 1) := by decide +kernel
theorem d_Q_fresh_8 : decode b_Q_fresh 8 = .ok (.ifCond .eq 9, 3) := by decide +kernel
theorem d_Q_fresh_11 : decode b_Q_fresh 11 = .ok (.iinc 1 1, 3) := by decide +kernel
theorem d_Q_fresh_14 : decode b_Q_fresh 14 = .ok (.goto (-12), 3) := by decide +kernel
theorem d_Q_fresh_17 : decode b_Q_fresh 17 = .ok (.aload_n 0, 1) := by decide +kernel
theorem d_Q_fresh_18 : decode b_Q_fresh 18 = .ok (.getfield 37, 3) := by decide +kernel
theorem d_Q_fresh_21 : decode b_Q_fresh 21 = .ok (.iload_n 1, 1) := by decide +kernel
theorem d_Q_fresh_22 : decode b_Q_fresh 22 = .ok (.iconst 1, 1) := by decide +kernel
theorem d_Q_fresh_23 : decode b_Q_fresh 23 = .ok (.bastore, 1) := by decide +kernel
theorem d_Q_fresh_24 : decode b_Q_fresh 24 = .ok (.aload_n 0, 1) := by decide +kernel
theorem d_Q_fresh_25 : decode b_Q_fresh 25 = .ok (.getfield 41, 3) := by decide +kernel
theorem d_Q_fresh_28 : decode b_Q_fresh 28 = .ok (.iload_n 1, 1) := by decide +kernel
theorem d_Q_fresh_29 : decode b_Q_fresh 29 = .ok (.iconst 0, 1) := by decide +kernel
theorem d_Q_fresh_30 : decode b_Q_fresh 30 = .ok (.bastore, 1) := by decide +kernel
theorem d_Q_fresh_31 : decode b_Q_fresh 31 = .ok (.aload_n 0, 1) := by decide +kernel
theorem d_Q_fresh_32 : decode b_Q_fresh 32 = .ok (.getfield 44, 3) := by decide +kernel
theorem d_Q_fresh_35 : decode b_Q_fresh 35 = .ok (.iload_n 1, 1) := by decide +kernel
theorem d_Q_fresh_36 : decode b_Q_fresh 36 = .ok (.iconst 0, 1) := by decide +kernel
theorem d_Q_fresh_37 : decode b_Q_fresh 37 = .ok (.bastore, 1) := by decide +kernel
theorem d_Q_fresh_38 : decode b_Q_fresh 38 = .ok (.aload_n 0, 1) := by decide +kernel
theorem d_Q_fresh_39 : decode b_Q_fresh 39 = .ok (.getfield 47, 3) := by decide +kernel
theorem d_Q_fresh_42 : decode b_Q_fresh 42 = .ok (.iload_n 1, 1) := by decide +kernel
theorem d_Q_fresh_43 : decode b_Q_fresh 43 = .ok (.iconst (-1), 1) := by decide +kernel
theorem d_Q_fresh_44 : decode b_Q_fresh 44 = .ok (.iastore, 1) := by decide +kernel
theorem d_Q_fresh_45 : decode b_Q_fresh 45 = .ok (.aload_n 0, 1) := by decide +kernel
theorem d_Q_fresh_46 : decode b_Q_fresh 46 = .ok (.getfield 50, 3) := by decide +kernel
theorem d_Q_fresh_49 : decode b_Q_fresh 49 = .ok (.iload_n 1, 1) := by decide +kernel
theorem d_Q_fresh_50 : decode b_Q_fresh 50 = .ok (.iconst (-1), 1) := by decide +kernel
theorem d_Q_fresh_51 : decode b_Q_fresh 51 = .ok (.iastore, 1) := by decide +kernel
theorem d_Q_fresh_52 : decode b_Q_fresh 52 = .ok (.bipush 8, 2) := by decide +kernel
theorem d_Q_fresh_54 : decode b_Q_fresh 54 = .ok (.iload_n 1, 1) := by decide +kernel
theorem d_Q_fresh_55 : decode b_Q_fresh 55 = .ok (.imul, 1) := by decide +kernel
theorem d_Q_fresh_56 : decode b_Q_fresh 56 = .ok (.istore_n 2, 1) := by decide +kernel
theorem d_Q_fresh_57 : decode b_Q_fresh 57 = .ok (.iload_n 2, 1) := by decide +kernel
theorem d_Q_fresh_58 : decode b_Q_fresh 58 = .ok (.bipush 8, 2) := by decide +kernel
theorem d_Q_fresh_60 : decode b_Q_fresh 60 = .ok (.iload_n 1, 1) := by decide +kernel
theorem d_Q_fresh_61 : decode b_Q_fresh 61 = .ok (.imul, 1) := by decide +kernel
theorem d_Q_fresh_62 : decode b_Q_fresh 62 = .ok (.bipush 8, 2) := by decide +kernel
theorem d_Q_fresh_64 : decode b_Q_fresh 64 = .ok (.iadd, 1) := by decide +kernel
theorem d_Q_fresh_65 : decode b_Q_fresh 65 = .ok (.if_icmp .ge 16, 3) := by decide +kernel
theorem d_Q_fresh_68 : decode b_Q_fresh 68 = .ok (.aload_n 0, 1) := by decide +kernel
theorem d_Q_fresh_69 : decode b_Q_fresh 69 = .ok (.getfield 53, 3) := by decide +kernel
theorem d_Q_fresh_72 : decode b_Q_fresh 72 = .ok (.iload_n 2, 1) := by decide +kernel
theorem d_Q_fresh_73 : decode b_Q_fresh 73 = .ok (.iconst 0, 1) := by decide +kernel
theorem d_Q_fresh_74 : decode b_Q_fresh 74 = .ok (.iastore, 1) := by decide +kernel
theorem d_Q_fresh_75 : decode b_Q_fresh 75 = .ok (.iinc 2 1, 3) := by decide +kernel
theorem d_Q_fresh_78 : decode b_Q_fresh 78 = .ok (.goto (-21), 3) := by decide +kernel
theorem d_Q_fresh_81 : decode b_Q_fresh 81 = .ok (.iload_n 1, 1) := by decide +kernel
theorem d_Q_fresh_82 : decode b_Q_fresh 82 = .ok (.ireturn, 1) := by decide +kernel
theorem d_Q_bring_0 : decode b_Q_bring 0 = .ok (.aload_n 0, 1) := by decide +kernel
theorem d_Q_bring_1 : decode b_Q_bring 1 = .ok (.getfield 47, 3) := by decide +kernel
theorem d_Q_bring_4 : decode b_Q_bring 4 = .ok (.iload_n 2, 1) := by decide +kernel
theorem d_Q_bring_5 : decode b_Q_bring 5 = .ok (.iaload, 1) := by decide +kernel
theorem d_Q_bring_6 : decode b_Q_bring 6 = .ok (.ifCond .lt 4, 3) := by decide +kernel
theorem d_Q_bring_9 : decode b_Q_bring 9 = .ok (.return_, 1) := by decide +kernel
theorem d_Q_bring_10 : decode b_Q_bring 10 = .ok (.iload_n 3, 1) := by decide +kernel
theorem d_Q_bring_11 : decode b_Q_bring 11 = .ok (.ifCond .ne 44, 3) := by decide +kernel
theorem d_Q_bring_14 : decode b_Q_bring 14 = .ok (.aload_n 0, 1) := by decide +kernel
theorem d_Q_bring_15 : decode b_Q_bring 15 = .ok (.getfield 59, 3) := by decide +kernel
theorem d_Q_bring_18 : decode b_Q_bring 18 = .ok (.bipush 7, 2) := by decide +kernel
theorem d_Q_bring_20 : decode b_Q_bring 20 = .ok (.dup2, 1) := by decide +kernel
theorem d_Q_bring_21 : decode b_Q_bring 21 = .ok (.iaload, 1) := by decide +kernel
theorem d_Q_bring_22 : decode b_Q_bring 22 = .ok (.iconst 1, 1) := by decide +kernel
theorem d_Q_bring_23 : decode b_Q_bring 23 = .ok (.iadd, 1) := by decide +kernel
theorem d_Q_bring_24 : decode b_Q_bring 24 = .ok (.iastore, 1) := by decide +kernel
theorem d_Q_bring_25 : decode b_Q_bring 25 = .ok (.aload_n 0, 1) := by decide +kernel
theorem d_Q_bring_26 : decode b_Q_bring 26 = .ok (.getfield 25, 3) := by decide +kernel
theorem d_Q_bring_29 : decode b_Q_bring 29 = .ok (.iload_n 1, 1) := by decide +kernel
theorem d_Q_bring_30 : decode b_Q_bring 30 = .ok (.dup2, 1) := by decide +kernel
theorem d_Q_bring_31 : decode b_Q_bring 31 = .ok (.iaload, 1) := by decide +kernel
theorem d_Q_bring_32 : decode b_Q_bring 32 = .ok (.iconst 1, 1) := by decide +kernel
theorem d_Q_bring_33 : decode b_Q_bring 33 = .ok (.iadd, 1) := by decide +kernel
theorem d_Q_bring_34 : decode b_Q_bring 34 = .ok (.iastore, 1) := by decide +kernel
theorem d_Q_bring_35 : decode b_Q_bring 35 = .ok (.aload_n 0, 1) := by decide +kernel
theorem d_Q_bring_36 : decode b_Q_bring 36 = .ok (.getfield 50, 3) := by decide +kernel
theorem d_Q_bring_39 : decode b_Q_bring 39 = .ok (.iload_n 2, 1) := by decide +kernel
theorem d_Q_bring_40 : decode b_Q_bring 40 = .ok (.iaload, 1) := by decide +kernel
theorem d_Q_bring_41 : decode b_Q_bring 41 = .ok (.ifCond .lt 14, 3) := by decide +kernel
theorem d_Q_bring_44 : decode b_Q_bring 44 = .ok (.aload_n 0, 1) := by decide +kernel
theorem d_Q_bring_45 : decode b_Q_bring 45 = .ok (.getfield 59, 3) := by decide +kernel
theorem d_Q_bring_48 : decode b_Q_bring 48 = .ok (.bipush 9, 2) := by decide +kernel
theorem d_Q_bring_50 : decode b_Q_bring 50 = .ok (.dup2, 1) := by decide +kernel
theorem d_Q_bring_51 : decode b_Q_bring 51 = .ok (.iaload, 1) := by decide +kernel
theorem d_Q_bring_52 : decode b_Q_bring 52 = .ok (.iconst 1, 1) := by decide +kernel
theorem d_Q_bring_53 : decode b_Q_bring 53 = .ok (.iadd, 1) := by decide +kernel
theorem d_Q_bring_54 : decode b_Q_bring 54 = .ok (.iastore, 1) := by decide +kernel
theorem d_Q_bring_55 : decode b_Q_bring 55 = .ok (.aload_n 0, 1) := by decide +kernel
theorem d_Q_bring_56 : decode b_Q_bring 56 = .ok (.getfield 47, 3) := by decide +kernel
theorem d_Q_bring_59 : decode b_Q_bring 59 = .ok (.iload_n 2, 1) := by decide +kernel
theorem d_Q_bring_60 : decode b_Q_bring 60 = .ok (.aload_n 0, 1) := by decide +kernel
theorem d_Q_bring_61 : decode b_Q_bring 61 = .ok (.invokevirtual 84, 3) := by decide +kernel
theorem d_Q_bring_64 : decode b_Q_bring 64 = .ok (.iastore, 1) := by decide +kernel
theorem d_Q_bring_65 : decode b_Q_bring 65 = .ok (.return_, 1) := by decide +kernel
theorem d_Q_freeFrame_0 : decode b_Q_freeFrame 0 = .ok (.iconst 0, 1) := by decide +kernel
theorem d_Q_freeFrame_1 : decode b_Q_freeFrame 1 = .ok (.istore_n 1, 1) := by decide +kernel
theorem d_Q_freeFrame_2 : decode b_Q_freeFrame 2 = .ok (.iload_n 1, 1) := by decide +kernel
theorem d_Q_freeFrame_3 : decode b_Q_freeFrame 3 = .ok (.bipush 6, 2) := by decide +kernel
theorem d_Q_freeFrame_5 : decode b_Q_freeFrame 5 = .ok (.if_icmp .ge 19, 3) := by decide +kernel
theorem d_Q_freeFrame_8 : decode b_Q_freeFrame 8 = .ok (.aload_n 0, 1) := by decide +kernel
theorem d_Q_freeFrame_9 : decode b_Q_freeFrame 9 = .ok (.iload_n 1, 1) := by decide +kernel
theorem d_Q_freeFrame_10 : decode b_Q_freeFrame 10 = .ok (.invokevirtual 74, 3) := by decide +kernel
theorem d_Q_freeFrame_13 : decode b_Q_freeFrame 13 = .ok (.ifCond .ge 5, 3) := by decide +kernel
theorem d_Q_freeFrame_16 : decode b_Q_freeFrame 16 = .ok (.iload_n 1, 1) := by decide +kernel
theorem d_Q_freeFrame_17 : decode b_Q_freeFrame 17 = .ok (.ireturn, 1) := by decide +kernel
theorem d_Q_freeFrame_18 : decode b_Q_freeFrame 18 = .ok (.iinc 1 1, 3) := by decide +kernel
theorem d_Q_freeFrame_21 : decode b_Q_freeFrame 21 = .ok (.goto (-19), 3) := by decide +kernel
theorem d_Q_freeFrame_24 : decode b_Q_freeFrame 24 = .ok (.aload_n 0, 1) := by decide +kernel
theorem d_Q_freeFrame_25 : decode b_Q_freeFrame 25 = .ok (.getfield 41, 3) := by decide +kernel
theorem d_Q_freeFrame_28 : decode b_Q_freeFrame 28 = .ok (.aload_n 0, 1) := by decide +kernel
theorem d_Q_freeFrame_29 : decode b_Q_freeFrame 29 = .ok (.aload_n 0, 1) := by decide +kernel
theorem d_Q_freeFrame_30 : decode b_Q_freeFrame 30 = .ok (.getfield 77, 3) := by decide +kernel
theorem d_Q_freeFrame_33 : decode b_Q_freeFrame 33 = .ok (.invokevirtual 74, 3) := by decide +kernel
theorem d_Q_freeFrame_36 : decode b_Q_freeFrame 36 = .ok (.baload, 1) := by decide +kernel
theorem d_Q_freeFrame_37 : decode b_Q_freeFrame 37 = .ok (.ifCond .eq 33, 3) := by decide +kernel
theorem d_Q_freeFrame_40 : decode b_Q_freeFrame 40 = .ok (.aload_n 0, 1) := by decide +kernel
theorem d_Q_freeFrame_41 : decode b_Q_freeFrame 41 = .ok (.getfield 41, 3) := by decide +kernel
theorem d_Q_freeFrame_44 : decode b_Q_freeFrame 44 = .ok (.aload_n 0, 1) := by decide +kernel
theorem d_Q_freeFrame_45 : decode b_Q_freeFrame 45 = .ok (.aload_n 0, 1) := by decide +kernel
theorem d_Q_freeFrame_46 : decode b_Q_freeFrame 46 = .ok (.getfield 77, 3) := by decide +kernel
theorem d_Q_freeFrame_49 : decode b_Q_freeFrame 49 = .ok (.invokevirtual 74, 3) := by decide +kernel
theorem d_Q_freeFrame_52 : decode b_Q_freeFrame 52 = .ok (.iconst 0, 1) := by decide +kernel
theorem d_Q_freeFrame_53 : decode b_Q_freeFrame 53 = .ok (.bastore, 1) := by decide +kernel
theorem d_Q_freeFrame_54 : decode b_Q_freeFrame 54 = .ok (.aload_n 0, 1) := by decide +kernel
theorem d_Q_freeFrame_55 : decode b_Q_freeFrame 55 = .ok (.aload_n 0, 1) := by decide +kernel
theorem d_Q_freeFrame_56 : decode b_Q_freeFrame 56 = .ok (.getfield 77, 3) := by decide +kernel
theorem d_Q_freeFrame_59 : decode b_Q_freeFrame 59 = .ok (.iconst 1, 1) := by decide +kernel
theorem d_Q_freeFrame_60 : decode b_Q_freeFrame 60 = .ok (.iadd, 1) := by decide +kernel
theorem d_Q_freeFrame_61 : decode b_Q_freeFrame 61 = .ok (.bipush 6, 2) := by decide +kernel
theorem d_Q_freeFrame_63 : decode b_Q_freeFrame 63 = .ok (.irem, 1) := by decide +kernel
theorem d_Q_freeFrame_64 : decode b_Q_freeFrame 64 = .ok (.putfield 77, 3) := by decide +kernel
theorem d_Q_freeFrame_67 : decode b_Q_freeFrame 67 = .ok (.goto (-43), 3) := by decide +kernel
theorem d_Q_freeFrame_70 : decode b_Q_freeFrame 70 = .ok (.aload_n 0, 1) := by decide +kernel
theorem d_Q_freeFrame_71 : decode b_Q_freeFrame 71 = .ok (.aload_n 0, 1) := by decide +kernel
theorem d_Q_freeFrame_72 : decode b_Q_freeFrame 72 = .ok (.aload_n 0, 1) := by decide +kernel
theorem d_Q_freeFrame_73 : decode b_Q_freeFrame 73 = .ok (.getfield 77, 3) := by decide +kernel
theorem d_Q_freeFrame_76 : decode b_Q_freeFrame 76 = .ok (.invokevirtual 74, 3) := by decide +kernel
theorem d_Q_freeFrame_79 : decode b_Q_freeFrame 79 = .ok (.invokevirtual 80, 3) := by decide +kernel
theorem d_Q_freeFrame_82 : decode b_Q_freeFrame 82 = .ok (.aload_n 0, 1) := by decide +kernel
theorem d_Q_freeFrame_83 : decode b_Q_freeFrame 83 = .ok (.getfield 77, 3) := by decide +kernel
theorem d_Q_freeFrame_86 : decode b_Q_freeFrame 86 = .ok (.istore_n 1, 1) := by decide +kernel
theorem d_Q_freeFrame_87 : decode b_Q_freeFrame 87 = .ok (.aload_n 0, 1) := by decide +kernel
theorem d_Q_freeFrame_88 : decode b_Q_freeFrame 88 = .ok (.aload_n 0, 1) := by decide +kernel
theorem d_Q_freeFrame_89 : decode b_Q_freeFrame 89 = .ok (.getfield 77, 3) := by decide +kernel
theorem d_Q_freeFrame_92 : decode b_Q_freeFrame 92 = .ok (.iconst 1, 1) := by decide +kernel
theorem d_Q_freeFrame_93 : decode b_Q_freeFrame 93 = .ok (.iadd, 1) := by decide +kernel
theorem d_Q_freeFrame_94 : decode b_Q_freeFrame 94 = .ok (.bipush 6, 2) := by decide +kernel
theorem d_Q_freeFrame_96 : decode b_Q_freeFrame 96 = .ok (.irem, 1) := by decide +kernel
theorem d_Q_freeFrame_97 : decode b_Q_freeFrame 97 = .ok (.putfield 77, 3) := by decide +kernel
theorem d_Q_freeFrame_100 : decode b_Q_freeFrame 100 = .ok (.iload_n 1, 1) := by decide +kernel
theorem d_Q_freeFrame_101 : decode b_Q_freeFrame 101 = .ok (.ireturn, 1) := by decide +kernel
theorem d_Q_inFrame_0 : decode b_Q_inFrame 0 = .ok (.iconst 0, 1) := by decide +kernel
theorem d_Q_inFrame_1 : decode b_Q_inFrame 1 = .ok (.istore_n 2, 1) := by decide +kernel
theorem d_Q_inFrame_2 : decode b_Q_inFrame 2 = .ok (.iload_n 2, 1) := by decide +kernel
theorem d_Q_inFrame_3 : decode b_Q_inFrame 3 = .ok (.bipush 34, 2) := by decide +kernel
theorem d_Q_inFrame_5 : decode b_Q_inFrame 5 = .ok (.if_icmp .ge 30, 3) := by decide +kernel
theorem d_Q_inFrame_8 : decode b_Q_inFrame 8 = .ok (.aload_n 0, 1) := by decide +kernel
theorem d_Q_inFrame_9 : decode b_Q_inFrame 9 = .ok (.getfield 37, 3) := by decide +kernel
theorem d_Q_inFrame_12 : decode b_Q_inFrame 12 = .ok (.iload_n 2, 1) := by decide +kernel
theorem d_Q_inFrame_13 : decode b_Q_inFrame 13 = .ok (.baload, 1) := by decide +kernel
theorem d_Q_inFrame_14 : decode b_Q_inFrame 14 = .ok (.ifCond .eq 15, 3) := by decide +kernel
theorem d_Q_inFrame_17 : decode b_Q_inFrame 17 = .ok (.aload_n 0, 1) := by decide +kernel
theorem d_Q_inFrame_18 : decode b_Q_inFrame 18 = .ok (.getfield 47, 3) := by decide +kernel
theorem d_Q_inFrame_21 : decode b_Q_inFrame 21 = .ok (.iload_n 2, 1) := by decide +kernel
theorem d_Q_inFrame_22 : decode b_Q_inFrame 22 = .ok (.iaload, 1) := by decide +kernel
theorem d_Q_inFrame_23 : decode b_Q_inFrame 23 = .ok (.iload_n 1, 1) := by decide +kernel
theorem d_Q_inFrame_24 : decode b_Q_inFrame 24 = .ok (.if_icmp .ne 5, 3) := by decide +kernel
theorem d_Q_inFrame_27 : decode b_Q_inFrame 27 = .ok (.iload_n 2, 1) := by decide +kernel
theorem d_Q_inFrame_28 : decode b_Q_inFrame 28 = .ok (.ireturn, 1) := by decide +kernel
theorem d_Q_inFrame_29 : decode b_Q_inFrame 29 = .ok (.iinc 2 1, 3) := by decide +kernel
theorem d_Q_inFrame_32 : decode b_Q_inFrame 32 = .ok (.goto (-30), 3) := by decide +kernel
theorem d_Q_inFrame_35 : decode b_Q_inFrame 35 = .ok (.iconst (-1), 1) := by decide +kernel
theorem d_Q_inFrame_36 : decode b_Q_inFrame 36 = .ok (.ireturn, 1) := by decide +kernel
theorem d_Q_goesOut_0 : decode b_Q_goesOut 0 = .ok (.aload_n 0, 1) := by decide +kernel
theorem d_Q_goesOut_1 : decode b_Q_goesOut 1 = .ok (.getfield 47, 3) := by decide +kernel
theorem d_Q_goesOut_4 : decode b_Q_goesOut 4 = .ok (.iload_n 1, 1) := by decide +kernel
theorem d_Q_goesOut_5 : decode b_Q_goesOut 5 = .ok (.iconst (-1), 1) := by decide +kernel
theorem d_Q_goesOut_6 : decode b_Q_goesOut 6 = .ok (.iastore, 1) := by decide +kernel
theorem d_Q_goesOut_7 : decode b_Q_goesOut 7 = .ok (.aload_n 0, 1) := by decide +kernel
theorem d_Q_goesOut_8 : decode b_Q_goesOut 8 = .ok (.getfield 44, 3) := by decide +kernel
theorem d_Q_goesOut_11 : decode b_Q_goesOut 11 = .ok (.iload_n 1, 1) := by decide +kernel
theorem d_Q_goesOut_12 : decode b_Q_goesOut 12 = .ok (.baload, 1) := by decide +kernel
theorem d_Q_goesOut_13 : decode b_Q_goesOut 13 = .ok (.ifCond .ne 4, 3) := by decide +kernel
theorem d_Q_goesOut_16 : decode b_Q_goesOut 16 = .ok (.return_, 1) := by decide +kernel
theorem d_Q_goesOut_17 : decode b_Q_goesOut 17 = .ok (.aload_n 0, 1) := by decide +kernel
theorem d_Q_goesOut_18 : decode b_Q_goesOut 18 = .ok (.getfield 44, 3) := by decide +kernel
theorem d_Q_goesOut_21 : decode b_Q_goesOut 21 = .ok (.iload_n 1, 1) := by decide +kernel
theorem d_Q_goesOut_22 : decode b_Q_goesOut 22 = .ok (.iconst 0, 1) := by decide +kernel
theorem d_Q_goesOut_23 : decode b_Q_goesOut 23 = .ok (.bastore, 1) := by decide +kernel
theorem d_Q_goesOut_24 : decode b_Q_goesOut 24 = .ok (.aload_n 0, 1) := by decide +kernel
theorem d_Q_goesOut_25 : decode b_Q_goesOut 25 = .ok (.getfield 50, 3) := by decide +kernel
theorem d_Q_goesOut_28 : decode b_Q_goesOut 28 = .ok (.iload_n 1, 1) := by decide +kernel
theorem d_Q_goesOut_29 : decode b_Q_goesOut 29 = .ok (.iaload, 1) := by decide +kernel
theorem d_Q_goesOut_30 : decode b_Q_goesOut 30 = .ok (.ifCond .ge 26, 3) := by decide +kernel
theorem d_Q_goesOut_33 : decode b_Q_goesOut 33 = .ok (.iconst 0, 1) := by decide +kernel
theorem d_Q_goesOut_34 : decode b_Q_goesOut 34 = .ok (.istore_n 2, 1) := by decide +kernel
theorem d_Q_goesOut_35 : decode b_Q_goesOut 35 = .ok (.aload_n 0, 1) := by decide +kernel
theorem d_Q_goesOut_36 : decode b_Q_goesOut 36 = .ok (.iload_n 2, 1) := by decide +kernel
theorem d_Q_goesOut_37 : decode b_Q_goesOut 37 = .ok (.invokevirtual 70, 3) := by decide +kernel
theorem d_Q_goesOut_40 : decode b_Q_goesOut 40 = .ok (.ifCond .eq 9, 3) := by decide +kernel
theorem d_Q_goesOut_43 : decode b_Q_goesOut 43 = .ok (.iinc 2 1, 3) := by decide +kernel
theorem d_Q_goesOut_46 : decode b_Q_goesOut 46 = .ok (.goto (-11), 3) := by decide +kernel
theorem d_Q_goesOut_49 : decode b_Q_goesOut 49 = .ok (.aload_n 0, 1) := by decide +kernel
theorem d_Q_goesOut_50 : decode b_Q_goesOut 50 = .ok (.getfield 50, 3) := by decide +kernel
theorem d_Q_goesOut_53 : decode b_Q_goesOut 53 = .ok (.iload_n 1, 1) := by decide +kernel
theorem d_Q_goesOut_54 : decode b_Q_goesOut 54 = .ok (.iload_n 2, 1) := by decide +kernel
theorem d_Q_goesOut_55 : decode b_Q_goesOut 55 = .ok (.iastore, 1) := by decide +kernel
theorem d_Q_goesOut_56 : decode b_Q_goesOut 56 = .ok (.aload_n 0, 1) := by decide +kernel
theorem d_Q_goesOut_57 : decode b_Q_goesOut 57 = .ok (.getfield 59, 3) := by decide +kernel
theorem d_Q_goesOut_60 : decode b_Q_goesOut 60 = .ok (.bipush 8, 2) := by decide +kernel
theorem d_Q_goesOut_62 : decode b_Q_goesOut 62 = .ok (.dup2, 1) := by decide +kernel
theorem d_Q_goesOut_63 : decode b_Q_goesOut 63 = .ok (.iaload, 1) := by decide +kernel
theorem d_Q_goesOut_64 : decode b_Q_goesOut 64 = .ok (.iconst 1, 1) := by decide +kernel
theorem d_Q_goesOut_65 : decode b_Q_goesOut 65 = .ok (.iadd, 1) := by decide +kernel
theorem d_Q_goesOut_66 : decode b_Q_goesOut 66 = .ok (.iastore, 1) := by decide +kernel
theorem d_Q_goesOut_67 : decode b_Q_goesOut 67 = .ok (.return_, 1) := by decide +kernel
theorem d_Q_isSlot_0 : decode b_Q_isSlot 0 = .ok (.iconst 0, 1) := by decide +kernel
theorem d_Q_isSlot_1 : decode b_Q_isSlot 1 = .ok (.istore_n 2, 1) := by decide +kernel
theorem d_Q_isSlot_2 : decode b_Q_isSlot 2 = .ok (.iload_n 2, 1) := by decide +kernel
theorem d_Q_isSlot_3 : decode b_Q_isSlot 3 = .ok (.bipush 34, 2) := by decide +kernel
theorem d_Q_isSlot_5 : decode b_Q_isSlot 5 = .ok (.if_icmp .ge 30, 3) := by decide +kernel
theorem d_Q_isSlot_8 : decode b_Q_isSlot 8 = .ok (.aload_n 0, 1) := by decide +kernel
theorem d_Q_isSlot_9 : decode b_Q_isSlot 9 = .ok (.getfield 37, 3) := by decide +kernel
theorem d_Q_isSlot_12 : decode b_Q_isSlot 12 = .ok (.iload_n 2, 1) := by decide +kernel
theorem d_Q_isSlot_13 : decode b_Q_isSlot 13 = .ok (.baload, 1) := by decide +kernel
theorem d_Q_isSlot_14 : decode b_Q_isSlot 14 = .ok (.ifCond .eq 15, 3) := by decide +kernel
theorem d_Q_isSlot_17 : decode b_Q_isSlot 17 = .ok (.aload_n 0, 1) := by decide +kernel
theorem d_Q_isSlot_18 : decode b_Q_isSlot 18 = .ok (.getfield 50, 3) := by decide +kernel
theorem d_Q_isSlot_21 : decode b_Q_isSlot 21 = .ok (.iload_n 2, 1) := by decide +kernel
theorem d_Q_isSlot_22 : decode b_Q_isSlot 22 = .ok (.iaload, 1) := by decide +kernel
theorem d_Q_isSlot_23 : decode b_Q_isSlot 23 = .ok (.iload_n 1, 1) := by decide +kernel
theorem d_Q_isSlot_24 : decode b_Q_isSlot 24 = .ok (.if_icmp .ne 5, 3) := by decide +kernel
theorem d_Q_isSlot_27 : decode b_Q_isSlot 27 = .ok (.iconst 1, 1) := by decide +kernel
theorem d_Q_isSlot_28 : decode b_Q_isSlot 28 = .ok (.ireturn, 1) := by decide +kernel
theorem d_Q_isSlot_29 : decode b_Q_isSlot 29 = .ok (.iinc 2 1, 3) := by decide +kernel
theorem d_Q_isSlot_32 : decode b_Q_isSlot 32 = .ok (.goto (-30), 3) := by decide +kernel
theorem d_Q_isSlot_35 : decode b_Q_isSlot 35 = .ok (.iconst 0, 1) := by decide +kernel
theorem d_Q_isSlot_36 : decode b_Q_isSlot 36 = .ok (.ireturn, 1) := by decide +kernel
theorem d_Q_sharers_0 : decode b_Q_sharers 0 = .ok (.iconst 0, 1) := by decide +kernel
theorem d_Q_sharers_1 : decode b_Q_sharers 1 = .ok (.istore_n 2, 1) := by decide +kernel
theorem d_Q_sharers_2 : decode b_Q_sharers 2 = .ok (.iconst 0, 1) := by decide +kernel
theorem d_Q_sharers_3 : decode b_Q_sharers 3 = .ok (.istore_n 3, 1) := by decide +kernel
theorem d_Q_sharers_4 : decode b_Q_sharers 4 = .ok (.iload_n 3, 1) := by decide +kernel
theorem d_Q_sharers_5 : decode b_Q_sharers 5 = .ok (.bipush 32, 2) := by decide +kernel
theorem d_Q_sharers_7 : decode b_Q_sharers 7 = .ok (.if_icmp .ge 22, 3) := by decide +kernel
theorem d_Q_sharers_10 : decode b_Q_sharers 10 = .ok (.aload_n 0, 1) := by decide +kernel
theorem d_Q_sharers_11 : decode b_Q_sharers 11 = .ok (.getfield 34, 3) := by decide +kernel
theorem d_Q_sharers_14 : decode b_Q_sharers 14 = .ok (.iload_n 3, 1) := by decide +kernel
theorem d_Q_sharers_15 : decode b_Q_sharers 15 = .ok (.iaload, 1) := by decide +kernel
theorem d_Q_sharers_16 : decode b_Q_sharers 16 = .ok (.iload_n 1, 1) := by decide +kernel
theorem d_Q_sharers_17 : decode b_Q_sharers 17 = .ok (.if_icmp .ne 6, 3) := by decide +kernel
theorem d_Q_sharers_20 : decode b_Q_sharers 20 = .ok (.iinc 2 1, 3) := by decide +kernel
theorem d_Q_sharers_23 : decode b_Q_sharers 23 = .ok (.iinc 3 1, 3) := by decide +kernel
theorem d_Q_sharers_26 : decode b_Q_sharers 26 = .ok (.goto (-22), 3) := by decide +kernel
theorem d_Q_sharers_29 : decode b_Q_sharers 29 = .ok (.iload_n 2, 1) := by decide +kernel
theorem d_Q_sharers_30 : decode b_Q_sharers 30 = .ok (.ireturn, 1) := by decide +kernel
theorem d_Q_peek_0 : decode b_Q_peek 0 = .ok (.aload_n 0, 1) := by decide +kernel
theorem d_Q_peek_1 : decode b_Q_peek 1 = .ok (.iload_n 1, 1) := by decide +kernel
theorem d_Q_peek_2 : decode b_Q_peek 2 = .ok (.invokevirtual 105, 3) := by decide +kernel
theorem d_Q_peek_5 : decode b_Q_peek 5 = .ok (.ifCond .eq 12, 3) := by decide +kernel
theorem d_Q_peek_8 : decode b_Q_peek 8 = .ok (.iload_n 2, 1) := by decide +kernel
theorem d_Q_peek_9 : decode b_Q_peek 9 = .ok (.bipush 64, 2) := by decide +kernel
theorem d_Q_peek_11 : decode b_Q_peek 11 = .ok (.invokestatic 95, 3) := by decide +kernel
theorem d_Q_peek_14 : decode b_Q_peek 14 = .ok (.ifCond .ne 5, 3) := by decide +kernel
theorem d_Q_peek_17 : decode b_Q_peek 17 = .ok (.iconst (-1), 1) := by decide +kernel
theorem d_Q_peek_18 : decode b_Q_peek 18 = .ok (.ireturn, 1) := by decide +kernel
theorem d_Q_peek_19 : decode b_Q_peek 19 = .ok (.aload_n 0, 1) := by decide +kernel
theorem d_Q_peek_20 : decode b_Q_peek 20 = .ok (.getfield 34, 3) := by decide +kernel
theorem d_Q_peek_23 : decode b_Q_peek 23 = .ok (.bipush 8, 2) := by decide +kernel
theorem d_Q_peek_25 : decode b_Q_peek 25 = .ok (.iload_n 1, 1) := by decide +kernel
theorem d_Q_peek_26 : decode b_Q_peek 26 = .ok (.imul, 1) := by decide +kernel
theorem d_Q_peek_27 : decode b_Q_peek 27 = .ok (.iload_n 2, 1) := by decide +kernel
theorem d_Q_peek_28 : decode b_Q_peek 28 = .ok (.bipush 8, 2) := by decide +kernel
theorem d_Q_peek_30 : decode b_Q_peek 30 = .ok (.idiv, 1) := by decide +kernel
theorem d_Q_peek_31 : decode b_Q_peek 31 = .ok (.iadd, 1) := by decide +kernel
theorem d_Q_peek_32 : decode b_Q_peek 32 = .ok (.iaload, 1) := by decide +kernel
theorem d_Q_peek_33 : decode b_Q_peek 33 = .ok (.istore_n 3, 1) := by decide +kernel
theorem d_Q_peek_34 : decode b_Q_peek 34 = .ok (.iload_n 3, 1) := by decide +kernel
theorem d_Q_peek_35 : decode b_Q_peek 35 = .ok (.ifCond .ge 7, 3) := by decide +kernel
theorem d_Q_peek_38 : decode b_Q_peek 38 = .ok (.iconst 0, 1) := by decide +kernel
theorem d_Q_peek_39 : decode b_Q_peek 39 = .ok (.goto 17, 3) := by decide +kernel
theorem d_Q_peek_42 : decode b_Q_peek 42 = .ok (.aload_n 0, 1) := by decide +kernel
theorem d_Q_peek_43 : decode b_Q_peek 43 = .ok (.getfield 53, 3) := by decide +kernel
theorem d_Q_peek_46 : decode b_Q_peek 46 = .ok (.bipush 8, 2) := by decide +kernel
theorem d_Q_peek_48 : decode b_Q_peek 48 = .ok (.iload_n 3, 1) := by decide +kernel
theorem d_Q_peek_49 : decode b_Q_peek 49 = .ok (.imul, 1) := by decide +kernel
theorem d_Q_peek_50 : decode b_Q_peek 50 = .ok (.iload_n 2, 1) := by decide +kernel
theorem d_Q_peek_51 : decode b_Q_peek 51 = .ok (.bipush 8, 2) := by decide +kernel
theorem d_Q_peek_53 : decode b_Q_peek 53 = .ok (.irem, 1) := by decide +kernel
theorem d_Q_peek_54 : decode b_Q_peek 54 = .ok (.iadd, 1) := by decide +kernel
theorem d_Q_peek_55 : decode b_Q_peek 55 = .ok (.iaload, 1) := by decide +kernel
theorem d_Q_peek_56 : decode b_Q_peek 56 = .ok (.ireturn, 1) := by decide +kernel
