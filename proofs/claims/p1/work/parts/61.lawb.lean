theorem lm_L_9 : Cond.methodLink R_law 9 y_K_init ∈ TT := mm_ (List.mem_append_right _ (List.mem_of_getElem? (l := tables_1) (i := 10) (by decide +kernel))) rfl
theorem lm_L_12 : Cond.methodLink R_law 12 y_Q_init ∈ TT := mm_ (List.mem_append_right _ (List.mem_of_getElem? (l := tables_1) (i := 340) (by decide +kernel))) rfl
theorem lm_L_13 : Cond.methodLink R_law 13 y_K_spawn ∈ TT := mm_ (List.mem_append_right _ (List.mem_of_getElem? (l := tables_1) (i := 166) (by decide +kernel))) rfl
theorem wv_L_13 : ∀ w ∈ ([.methodLink R_law 13 y_K_spawn, .instanceMethod y_K_spawn, .selects R_K y_K_spawn y_K_spawn, .initialized R_K, .code y_K_spawn b_K_spawn 2 (some .int)] : List Cond), w ∈ TT := List.forall_mem_cons.mpr ⟨lm_L_13, List.forall_mem_cons.mpr ⟨wi_K_spawn, List.forall_mem_cons.mpr ⟨ws_K_spawn, List.forall_mem_cons.mpr ⟨wn_K, List.forall_mem_cons.mpr ⟨wc_K_spawn, fun _ h => absurd h List.not_mem_nil⟩⟩⟩⟩⟩
theorem lm_L_17 : Cond.methodLink R_law 17 y_Q_spawn ∈ TT := mm_ (List.mem_append_right _ (List.mem_of_getElem? (l := tables_1) (i := 415) (by decide +kernel))) rfl
theorem wv_L_17 : ∀ w ∈ ([.methodLink R_law 17 y_Q_spawn, .instanceMethod y_Q_spawn, .selects R_Q y_Q_spawn y_Q_spawn, .initialized R_Q, .code y_Q_spawn b_Q_spawn 2 (some .int)] : List Cond), w ∈ TT := List.forall_mem_cons.mpr ⟨lm_L_17, List.forall_mem_cons.mpr ⟨wi_Q_spawn, List.forall_mem_cons.mpr ⟨ws_Q_spawn, List.forall_mem_cons.mpr ⟨wn_Q, List.forall_mem_cons.mpr ⟨wc_Q_spawn, fun _ h => absurd h List.not_mem_nil⟩⟩⟩⟩⟩
theorem lm_L_18 : Cond.methodLink R_law 18 y_K_poke ∈ TT := mm_ (List.mem_append_right _ (List.mem_of_getElem? (l := tables_1) (i := 181) (by decide +kernel))) rfl
theorem wv_L_18 : ∀ w ∈ ([.methodLink R_law 18 y_K_poke, .instanceMethod y_K_poke, .selects R_K y_K_poke y_K_poke, .initialized R_K, .code y_K_poke b_K_poke 5 (some .int)] : List Cond), w ∈ TT := List.forall_mem_cons.mpr ⟨lm_L_18, List.forall_mem_cons.mpr ⟨wi_K_poke, List.forall_mem_cons.mpr ⟨ws_K_poke, List.forall_mem_cons.mpr ⟨wn_K, List.forall_mem_cons.mpr ⟨wc_K_poke, fun _ h => absurd h List.not_mem_nil⟩⟩⟩⟩⟩
theorem lm_L_22 : Cond.methodLink R_law 22 y_Q_poke ∈ TT := mm_ (List.mem_append_right _ (List.mem_of_getElem? (l := tables_1) (i := 423) (by decide +kernel))) rfl
theorem wv_L_22 : ∀ w ∈ ([.methodLink R_law 22 y_Q_poke, .instanceMethod y_Q_poke, .selects R_Q y_Q_poke y_Q_poke, .initialized R_Q, .code y_Q_poke b_Q_poke 5 (some .int)] : List Cond), w ∈ TT := List.forall_mem_cons.mpr ⟨lm_L_22, List.forall_mem_cons.mpr ⟨wi_Q_poke, List.forall_mem_cons.mpr ⟨ws_Q_poke, List.forall_mem_cons.mpr ⟨wn_Q, List.forall_mem_cons.mpr ⟨wc_Q_poke, fun _ h => absurd h List.not_mem_nil⟩⟩⟩⟩⟩
theorem lm_L_23 : Cond.methodLink R_law 23 y_K_peek ∈ TT := mm_ (List.mem_append_right _ (List.mem_of_getElem? (l := tables_1) (i := 235) (by decide +kernel))) rfl
theorem wv_L_23 : ∀ w ∈ ([.methodLink R_law 23 y_K_peek, .instanceMethod y_K_peek, .selects R_K y_K_peek y_K_peek, .initialized R_K, .code y_K_peek b_K_peek 4 (some .int)] : List Cond), w ∈ TT := List.forall_mem_cons.mpr ⟨lm_L_23, List.forall_mem_cons.mpr ⟨wi_K_peek, List.forall_mem_cons.mpr ⟨ws_K_peek, List.forall_mem_cons.mpr ⟨wn_K, List.forall_mem_cons.mpr ⟨wc_K_peek, fun _ h => absurd h List.not_mem_nil⟩⟩⟩⟩⟩
theorem lm_L_27 : Cond.methodLink R_law 27 y_Q_peek ∈ TT := mm_ (List.mem_append_right _ (List.mem_of_getElem? (l := tables_1) (i := 470) (by decide +kernel))) rfl
theorem wv_L_27 : ∀ w ∈ ([.methodLink R_law 27 y_Q_peek, .instanceMethod y_Q_peek, .selects R_Q y_Q_peek y_Q_peek, .initialized R_Q, .code y_Q_peek b_Q_peek 4 (some .int)] : List Cond), w ∈ TT := List.forall_mem_cons.mpr ⟨lm_L_27, List.forall_mem_cons.mpr ⟨wi_Q_peek, List.forall_mem_cons.mpr ⟨ws_Q_peek, List.forall_mem_cons.mpr ⟨wn_Q, List.forall_mem_cons.mpr ⟨wc_Q_peek, fun _ h => absurd h List.not_mem_nil⟩⟩⟩⟩⟩
theorem lm_L_28 : Cond.methodLink R_law 28 y_K_kill ∈ TT := mm_ (List.mem_append_right _ (List.mem_of_getElem? (l := tables_1) (i := 239) (by decide +kernel))) rfl
theorem wv_L_28 : ∀ w ∈ ([.methodLink R_law 28 y_K_kill, .instanceMethod y_K_kill, .selects R_K y_K_kill y_K_kill, .initialized R_K, .code y_K_kill b_K_kill 2 (some .boolean)] : List Cond), w ∈ TT := List.forall_mem_cons.mpr ⟨lm_L_28, List.forall_mem_cons.mpr ⟨wi_K_kill, List.forall_mem_cons.mpr ⟨ws_K_kill, List.forall_mem_cons.mpr ⟨wn_K, List.forall_mem_cons.mpr ⟨wc_K_kill, fun _ h => absurd h List.not_mem_nil⟩⟩⟩⟩⟩
theorem lm_L_32 : Cond.methodLink R_law 32 y_Q_kill ∈ TT := mm_ (List.mem_append_right _ (List.mem_of_getElem? (l := tables_1) (i := 474) (by decide +kernel))) rfl
theorem wv_L_32 : ∀ w ∈ ([.methodLink R_law 32 y_Q_kill, .instanceMethod y_Q_kill, .selects R_Q y_Q_kill y_Q_kill, .initialized R_Q, .code y_Q_kill b_Q_kill 2 (some .boolean)] : List Cond), w ∈ TT := List.forall_mem_cons.mpr ⟨lm_L_32, List.forall_mem_cons.mpr ⟨wi_Q_kill, List.forall_mem_cons.mpr ⟨ws_Q_kill, List.forall_mem_cons.mpr ⟨wn_Q, List.forall_mem_cons.mpr ⟨wc_Q_kill, fun _ h => absurd h List.not_mem_nil⟩⟩⟩⟩⟩
theorem lm_L_33 : Cond.methodLink R_law 33 y_K_run ∈ TT := mm_ (List.mem_append_right _ (List.mem_of_getElem? (l := tables_1) (i := 263) (by decide +kernel))) rfl
theorem wv_L_33 : ∀ w ∈ ([.methodLink R_law 33 y_K_run, .instanceMethod y_K_run, .selects R_K y_K_run y_K_run, .initialized R_K, .code y_K_run b_K_run 4 (some .int)] : List Cond), w ∈ TT := List.forall_mem_cons.mpr ⟨lm_L_33, List.forall_mem_cons.mpr ⟨wi_K_run, List.forall_mem_cons.mpr ⟨ws_K_run, List.forall_mem_cons.mpr ⟨wn_K, List.forall_mem_cons.mpr ⟨wc_K_run, fun _ h => absurd h List.not_mem_nil⟩⟩⟩⟩⟩
theorem lm_L_37 : Cond.methodLink R_law 37 y_Q_run ∈ TT := mm_ (List.mem_append_right _ (List.mem_of_getElem? (l := tables_1) (i := 486) (by decide +kernel))) rfl
theorem wv_L_37 : ∀ w ∈ ([.methodLink R_law 37 y_Q_run, .instanceMethod y_Q_run, .selects R_Q y_Q_run y_Q_run, .initialized R_Q, .code y_Q_run b_Q_run 4 (some .int)] : List Cond), w ∈ TT := List.forall_mem_cons.mpr ⟨lm_L_37, List.forall_mem_cons.mpr ⟨wi_Q_run, List.forall_mem_cons.mpr ⟨ws_Q_run, List.forall_mem_cons.mpr ⟨wn_Q, List.forall_mem_cons.mpr ⟨wc_Q_run, fun _ h => absurd h List.not_mem_nil⟩⟩⟩⟩⟩
theorem lm_L_38 : Cond.methodLink R_law 38 y_K_process ∈ TT := mm_ (List.mem_append_right _ (List.mem_of_getElem? (l := tables_1) (i := 307) (by decide +kernel))) rfl
theorem wv_L_38 : ∀ w ∈ ([.methodLink R_law 38 y_K_process, .instanceMethod y_K_process, .selects R_K y_K_process y_K_process, .initialized R_K, .code y_K_process b_K_process 5 (some .int)] : List Cond), w ∈ TT := List.forall_mem_cons.mpr ⟨lm_L_38, List.forall_mem_cons.mpr ⟨wi_K_process, List.forall_mem_cons.mpr ⟨ws_K_process, List.forall_mem_cons.mpr ⟨wn_K, List.forall_mem_cons.mpr ⟨wc_K_process, fun _ h => absurd h List.not_mem_nil⟩⟩⟩⟩⟩
theorem lm_L_41 : Cond.methodLink R_law 41 y_Q_process ∈ TT := mm_ (List.mem_append_right _ (List.mem_of_getElem? (l := tables_1) (i := 510) (by decide +kernel))) rfl
theorem wv_L_41 : ∀ w ∈ ([.methodLink R_law 41 y_Q_process, .instanceMethod y_Q_process, .selects R_Q y_Q_process y_Q_process, .initialized R_Q, .code y_Q_process b_Q_process 3 (some .int)] : List Cond), w ∈ TT := List.forall_mem_cons.mpr ⟨lm_L_41, List.forall_mem_cons.mpr ⟨wi_Q_process, List.forall_mem_cons.mpr ⟨ws_Q_process, List.forall_mem_cons.mpr ⟨wn_Q, List.forall_mem_cons.mpr ⟨wc_Q_process, fun _ h => absurd h List.not_mem_nil⟩⟩⟩⟩⟩
theorem lm_L_42 : Cond.methodLink R_law 42 y_K_page ∈ TT := mm_ (List.mem_append_right _ (List.mem_of_getElem? (l := tables_1) (i := 315) (by decide +kernel))) rfl
theorem wv_L_42 : ∀ w ∈ ([.methodLink R_law 42 y_K_page, .instanceMethod y_K_page, .selects R_K y_K_page y_K_page, .initialized R_K, .code y_K_page b_K_page 5 (some .int)] : List Cond), w ∈ TT := List.forall_mem_cons.mpr ⟨lm_L_42, List.forall_mem_cons.mpr ⟨wi_K_page, List.forall_mem_cons.mpr ⟨ws_K_page, List.forall_mem_cons.mpr ⟨wn_K, List.forall_mem_cons.mpr ⟨wc_K_page, fun _ h => absurd h List.not_mem_nil⟩⟩⟩⟩⟩
theorem lm_L_45 : Cond.methodLink R_law 45 y_Q_page ∈ TT := mm_ (List.mem_append_right _ (List.mem_of_getElem? (l := tables_1) (i := 514) (by decide +kernel))) rfl
theorem wv_L_45 : ∀ w ∈ ([.methodLink R_law 45 y_Q_page, .instanceMethod y_Q_page, .selects R_Q y_Q_page y_Q_page, .initialized R_Q, .code y_Q_page b_Q_page 5 (some .int)] : List Cond), w ∈ TT := List.forall_mem_cons.mpr ⟨lm_L_45, List.forall_mem_cons.mpr ⟨wi_Q_page, List.forall_mem_cons.mpr ⟨ws_Q_page, List.forall_mem_cons.mpr ⟨wn_Q, List.forall_mem_cons.mpr ⟨wc_Q_page, fun _ h => absurd h List.not_mem_nil⟩⟩⟩⟩⟩
theorem lm_L_46 : Cond.methodLink R_law 46 y_K_printed ∈ TT := mm_ (List.mem_append_right _ (List.mem_of_getElem? (l := tables_1) (i := 323) (by decide +kernel))) rfl
theorem wv_L_46 : ∀ w ∈ ([.methodLink R_law 46 y_K_printed, .instanceMethod y_K_printed, .selects R_K y_K_printed y_K_printed, .initialized R_K, .code y_K_printed b_K_printed 2 (some .int)] : List Cond), w ∈ TT := List.forall_mem_cons.mpr ⟨lm_L_46, List.forall_mem_cons.mpr ⟨wi_K_printed, List.forall_mem_cons.mpr ⟨ws_K_printed, List.forall_mem_cons.mpr ⟨wn_K, List.forall_mem_cons.mpr ⟨wc_K_printed, fun _ h => absurd h List.not_mem_nil⟩⟩⟩⟩⟩
theorem lm_L_49 : Cond.methodLink R_law 49 y_Q_printed ∈ TT := mm_ (List.mem_append_right _ (List.mem_of_getElem? (l := tables_1) (i := 518) (by decide +kernel))) rfl
theorem wv_L_49 : ∀ w ∈ ([.methodLink R_law 49 y_Q_printed, .instanceMethod y_Q_printed, .selects R_Q y_Q_printed y_Q_printed, .initialized R_Q, .code y_Q_printed b_Q_printed 2 (some .int)] : List Cond), w ∈ TT := List.forall_mem_cons.mpr ⟨lm_L_49, List.forall_mem_cons.mpr ⟨wi_Q_printed, List.forall_mem_cons.mpr ⟨ws_Q_printed, List.forall_mem_cons.mpr ⟨wn_Q, List.forall_mem_cons.mpr ⟨wc_Q_printed, fun _ h => absurd h List.not_mem_nil⟩⟩⟩⟩⟩
theorem lm_L_50 : Cond.methodLink R_law 50 y_K_count ∈ TT := mm_ (List.mem_append_right _ (List.mem_of_getElem? (l := tables_1) (i := 327) (by decide +kernel))) rfl
theorem wv_L_50 : ∀ w ∈ ([.methodLink R_law 50 y_K_count, .instanceMethod y_K_count, .selects R_K y_K_count y_K_count, .initialized R_K, .code y_K_count b_K_count 2 (some .int)] : List Cond), w ∈ TT := List.forall_mem_cons.mpr ⟨lm_L_50, List.forall_mem_cons.mpr ⟨wi_K_count, List.forall_mem_cons.mpr ⟨ws_K_count, List.forall_mem_cons.mpr ⟨wn_K, List.forall_mem_cons.mpr ⟨wc_K_count, fun _ h => absurd h List.not_mem_nil⟩⟩⟩⟩⟩
theorem lm_L_53 : Cond.methodLink R_law 53 y_Q_count ∈ TT := mm_ (List.mem_append_right _ (List.mem_of_getElem? (l := tables_1) (i := 522) (by decide +kernel))) rfl
theorem wv_L_53 : ∀ w ∈ ([.methodLink R_law 53 y_Q_count, .instanceMethod y_Q_count, .selects R_Q y_Q_count y_Q_count, .initialized R_Q, .code y_Q_count b_Q_count 4 (some .int)] : List Cond), w ∈ TT := List.forall_mem_cons.mpr ⟨lm_L_53, List.forall_mem_cons.mpr ⟨wi_Q_count, List.forall_mem_cons.mpr ⟨ws_Q_count, List.forall_mem_cons.mpr ⟨wn_Q, List.forall_mem_cons.mpr ⟨wc_Q_count, fun _ h => absurd h List.not_mem_nil⟩⟩⟩⟩⟩
theorem wl_L_7 : Cond.classLink R_law 7 R_K ∈ TT := mm_ (List.mem_append_right _ (List.mem_of_getElem? (l := tables_1) (i := 8) (by decide +kernel))) rfl
theorem wl_L_10 : Cond.classLink R_law 10 R_Q ∈ TT := mm_ (List.mem_append_right _ (List.mem_of_getElem? (l := tables_1) (i := 338) (by decide +kernel))) rfl
theorem d_L_0 : decode code 0 = .ok (.new 7, 3) := by decide +kernel
theorem d_L_3 : decode code 3 = .ok (.dup, 1) := by decide +kernel
theorem d_L_4 : decode code 4 = .ok (.invokespecial 9, 3) := by decide +kernel
theorem d_L_7 : decode code 7 = .ok (.astore_n 1, 1) := by decide +kernel
theorem d_L_8 : decode code 8 = .ok (.new 10, 3) := by decide +kernel
theorem d_L_11 : decode code 11 = .ok (.dup, 1) := by decide +kernel
theorem d_L_12 : decode code 12 = .ok (.invokespecial 12, 3) := by decide +kernel
theorem d_L_15 : decode code 15 = .ok (.astore_n 2, 1) := by decide +kernel
theorem d_L_16 : decode code 16 = .ok (.iconst 0, 1) := by decide +kernel
theorem d_L_17 : decode code 17 = .ok (.istore_n 3, 1) := by decide +kernel
theorem d_L_18 : decode code 18 = .ok (.iload_n 3, 1) := by decide +kernel
theorem d_L_19 : decode code 19 = .ok (.aload_n 0, 1) := by decide +kernel
theorem d_L_20 : decode code 20 = .ok (.arraylength, 1) := by decide +kernel
theorem d_L_21 : decode code 21 = .ok (.iconst 4, 1) := by decide +kernel
theorem d_L_22 : decode code 22 = .ok (.isub, 1) := by decide +kernel
theorem d_L_23 : decode code 23 = .ok (.if_icmp .gt 324, 3) := by decide +kernel
theorem d_L_26 : decode code 26 = .ok (.aload_n 0, 1) := by decide +kernel
theorem d_L_27 : decode code 27 = .ok (.iload_n 3, 1) := by decide +kernel
theorem d_L_28 : decode code 28 = .ok (.iaload, 1) := by decide +kernel
theorem d_L_29 : decode code 29 = .ok (.bipush 15, 2) := by decide +kernel
theorem d_L_31 : decode code 31 = .ok (.iand, 1) := by decide +kernel
theorem d_L_32 : decode code 32 = .ok (.tableswitch 309 0 8 #[52, 65, 108, 141, 164, 187, 220, 263, 286], 52) := by decide +kernel
theorem d_L_84 : decode code 84 = .ok (.aload_n 1, 1) := by decide +kernel
theorem d_L_85 : decode code 85 = .ok (.invokevirtual 13, 3) := by decide +kernel
theorem d_L_88 : decode code 88 = .ok (.aload_n 2, 1) := by decide +kernel
theorem d_L_89 : decode code 89 = .ok (.invokevirtual 17, 3) := by decide +kernel
theorem d_L_92 : decode code 92 = .ok (.if_icmp .eq 249, 3) := by decide +kernel
theorem d_L_95 : decode code 95 = .ok (.iconst 0, 1) := by decide +kernel
theorem d_L_96 : decode code 96 = .ok (.ireturn, 1) := by decide +kernel
theorem d_L_97 : decode code 97 = .ok (.aload_n 1, 1) := by decide +kernel
theorem d_L_98 : decode code 98 = .ok (.aload_n 0, 1) := by decide +kernel
theorem d_L_99 : decode code 99 = .ok (.iload_n 3, 1) := by decide +kernel
theorem d_L_100 : decode code 100 = .ok (.iconst 1, 1) := by decide +kernel
theorem d_L_101 : decode code 101 = .ok (.iadd, 1) := by decide +kernel
theorem d_L_102 : decode code 102 = .ok (.iaload, 1) := by decide +kernel
theorem d_L_103 : decode code 103 = .ok (.aload_n 0, 1) := by decide +kernel
theorem d_L_104 : decode code 104 = .ok (.iload_n 3, 1) := by decide +kernel
theorem d_L_105 : decode code 105 = .ok (.iconst 2, 1) := by decide +kernel
theorem d_L_106 : decode code 106 = .ok (.iadd, 1) := by decide +kernel
theorem d_L_107 : decode code 107 = .ok (.iaload, 1) := by decide +kernel
theorem d_L_108 : decode code 108 = .ok (.aload_n 0, 1) := by decide +kernel
theorem d_L_109 : decode code 109 = .ok (.iload_n 3, 1) := by decide +kernel
theorem d_L_110 : decode code 110 = .ok (.iconst 3, 1) := by decide +kernel
theorem d_L_111 : decode code 111 = .ok (.iadd, 1) := by decide +kernel
theorem d_L_112 : decode code 112 = .ok (.iaload, 1) := by decide +kernel
theorem d_L_113 : decode code 113 = .ok (.invokevirtual 18, 3) := by decide +kernel
theorem d_L_116 : decode code 116 = .ok (.aload_n 2, 1) := by decide +kernel
theorem d_L_117 : decode code 117 = .ok (.aload_n 0, 1) := by decide +kernel
theorem d_L_118 : decode code 118 = .ok (.iload_n 3, 1) := by decide +kernel
theorem d_L_119 : decode code 119 = .ok (.iconst 1, 1) := by decide +kernel
theorem d_L_120 : decode code 120 = .ok (.iadd, 1) := by decide +kernel
theorem d_L_121 : decode code 121 = .ok (.iaload, 1) := by decide +kernel
theorem d_L_122 : decode code 122 = .ok (.aload_n 0, 1) := by decide +kernel
theorem d_L_123 : decode code 123 = .ok (.iload_n 3, 1) := by decide +kernel
theorem d_L_124 : decode code 124 = .ok (.iconst 2, 1) := by decide +kernel
theorem d_L_125 : decode code 125 = .ok (.iadd, 1) := by decide +kernel
theorem d_L_126 : decode code 126 = .ok (.iaload, 1) := by decide +kernel
theorem d_L_127 : decode code 127 = .ok (.aload_n 0, 1) := by decide +kernel
theorem d_L_128 : decode code 128 = .ok (.iload_n 3, 1) := by decide +kernel
theorem d_L_129 : decode code 129 = .ok (.iconst 3, 1) := by decide +kernel
theorem d_L_130 : decode code 130 = .ok (.iadd, 1) := by decide +kernel
theorem d_L_131 : decode code 131 = .ok (.iaload, 1) := by decide +kernel
theorem d_L_132 : decode code 132 = .ok (.invokevirtual 22, 3) := by decide +kernel
theorem d_L_135 : decode code 135 = .ok (.if_icmp .eq 206, 3) := by decide +kernel
theorem d_L_138 : decode code 138 = .ok (.iconst 0, 1) := by decide +kernel
theorem d_L_139 : decode code 139 = .ok (.ireturn, 1) := by decide +kernel
theorem d_L_140 : decode code 140 = .ok (.aload_n 1, 1) := by decide +kernel
theorem d_L_141 : decode code 141 = .ok (.aload_n 0, 1) := by decide +kernel
theorem d_L_142 : decode code 142 = .ok (.iload_n 3, 1) := by decide +kernel
theorem d_L_143 : decode code 143 = .ok (.iconst 1, 1) := by decide +kernel
theorem d_L_144 : decode code 144 = .ok (.iadd, 1) := by decide +kernel
theorem d_L_145 : decode code 145 = .ok (.iaload, 1) := by decide +kernel
theorem d_L_146 : decode code 146 = .ok (.aload_n 0, 1) := by decide +kernel
theorem d_L_147 : decode code 147 = .ok (.iload_n 3, 1) := by decide +kernel
theorem d_L_148 : decode code 148 = .ok (.iconst 2, 1) := by decide +kernel
theorem d_L_149 : decode code 149 = .ok (.iadd, 1) := by decide +kernel
theorem d_L_150 : decode code 150 = .ok (.iaload, 1) := by decide +kernel
theorem d_L_151 : decode code 151 = .ok (.invokevirtual 23, 3) := by decide +kernel
theorem d_L_154 : decode code 154 = .ok (.aload_n 2, 1) := by decide +kernel
theorem d_L_155 : decode code 155 = .ok (.aload_n 0, 1) := by decide +kernel
theorem d_L_156 : decode code 156 = .ok (.iload_n 3, 1) := by decide +kernel
theorem d_L_157 : decode code 157 = .ok (.iconst 1, 1) := by decide +kernel
theorem d_L_158 : decode code 158 = .ok (.iadd, 1) := by decide +kernel
theorem d_L_159 : decode code 159 = .ok (.iaload, 1) := by decide +kernel
theorem d_L_160 : decode code 160 = .ok (.aload_n 0, 1) := by decide +kernel
theorem d_L_161 : decode code 161 = .ok (.iload_n 3, 1) := by decide +kernel
theorem d_L_162 : decode code 162 = .ok (.iconst 2, 1) := by decide +kernel
theorem d_L_163 : decode code 163 = .ok (.iadd, 1) := by decide +kernel
theorem d_L_164 : decode code 164 = .ok (.iaload, 1) := by decide +kernel
theorem d_L_165 : decode code 165 = .ok (.invokevirtual 27, 3) := by decide +kernel
theorem d_L_168 : decode code 168 = .ok (.if_icmp .eq 173, 3) := by decide +kernel
theorem d_L_171 : decode code 171 = .ok (.iconst 0, 1) := by decide +kernel
theorem d_L_172 : decode code 172 = .ok (.ireturn, 1) := by decide +kernel
theorem d_L_173 : decode code 173 = .ok (.aload_n 1, 1) := by decide +kernel
theorem d_L_174 : decode code 174 = .ok (.aload_n 0, 1) := by decide +kernel
theorem d_L_175 : decode code 175 = .ok (.iload_n 3, 1) := by decide +kernel
theorem d_L_176 : decode code 176 = .ok (.iconst 1, 1) := by decide +kernel
theorem d_L_177 : decode code 177 = .ok (.iadd, 1) := by decide +kernel
theorem d_L_178 : decode code 178 = .ok (.iaload, 1) := by decide +kernel
theorem d_L_179 : decode code 179 = .ok (.invokevirtual 28, 3) := by decide +kernel
theorem d_L_182 : decode code 182 = .ok (.aload_n 2, 1) := by decide +kernel
theorem d_L_183 : decode code 183 = .ok (.aload_n 0, 1) := by decide +kernel
theorem d_L_184 : decode code 184 = .ok (.iload_n 3, 1) := by decide +kernel
theorem d_L_185 : decode code 185 = .ok (.iconst 1, 1) := by decide +kernel
theorem d_L_186 : decode code 186 = .ok (.iadd, 1) := by decide +kernel
theorem d_L_187 : decode code 187 = .ok (.iaload, 1) := by decide +kernel
theorem d_L_188 : decode code 188 = .ok (.invokevirtual 32, 3) := by decide +kernel
theorem d_L_191 : decode code 191 = .ok (.if_icmp .eq 150, 3) := by decide +kernel
theorem d_L_194 : decode code 194 = .ok (.iconst 0, 1) := by decide +kernel
theorem d_L_195 : decode code 195 = .ok (.ireturn, 1) := by decide +kernel
theorem d_L_196 : decode code 196 = .ok (.aload_n 1, 1) := by decide +kernel
theorem d_L_197 : decode code 197 = .ok (.aload_n 0, 1) := by decide +kernel
theorem d_L_198 : decode code 198 = .ok (.iload_n 3, 1) := by decide +kernel
theorem d_L_199 : decode code 199 = .ok (.iconst 1, 1) := by decide +kernel
theorem d_L_200 : decode code 200 = .ok (.iadd, 1) := by decide +kernel
theorem d_L_201 : decode code 201 = .ok (.iaload, 1) := by decide +kernel
theorem d_L_202 : decode code 202 = .ok (.invokevirtual 33, 3) := by decide +kernel
theorem d_L_205 : decode code 205 = .ok (.aload_n 2, 1) := by decide +kernel
theorem d_L_206 : decode code 206 = .ok (.aload_n 0, 1) := by decide +kernel
theorem d_L_207 : decode code 207 = .ok (.iload_n 3, 1) := by decide +kernel
theorem d_L_208 : decode code 208 = .ok (.iconst 1, 1) := by decide +kernel
theorem d_L_209 : decode code 209 = .ok (.iadd, 1) := by decide +kernel
theorem d_L_210 : decode code 210 = .ok (.iaload, 1) := by decide +kernel
theorem d_L_211 : decode code 211 = .ok (.invokevirtual 37, 3) := by decide +kernel
theorem d_L_214 : decode code 214 = .ok (.if_icmp .eq 127, 3) := by decide +kernel
theorem d_L_217 : decode code 217 = .ok (.iconst 0, 1) := by decide +kernel
theorem d_L_218 : decode code 218 = .ok (.ireturn, 1) := by decide +kernel
theorem d_L_219 : decode code 219 = .ok (.aload_n 1, 1) := by decide +kernel
theorem d_L_220 : decode code 220 = .ok (.aload_n 0, 1) := by decide +kernel
theorem d_L_221 : decode code 221 = .ok (.iload_n 3, 1) := by decide +kernel
theorem d_L_222 : decode code 222 = .ok (.iconst 1, 1) := by decide +kernel
theorem d_L_223 : decode code 223 = .ok (.iadd, 1) := by decide +kernel
theorem d_L_224 : decode code 224 = .ok (.iaload, 1) := by decide +kernel
theorem d_L_225 : decode code 225 = .ok (.aload_n 0, 1) := by decide +kernel
theorem d_L_226 : decode code 226 = .ok (.iload_n 3, 1) := by decide +kernel
theorem d_L_227 : decode code 227 = .ok (.iconst 2, 1) := by decide +kernel
theorem d_L_228 : decode code 228 = .ok (.iadd, 1) := by decide +kernel
theorem d_L_229 : decode code 229 = .ok (.iaload, 1) := by decide +kernel
theorem d_L_230 : decode code 230 = .ok (.invokevirtual 38, 3) := by decide +kernel
theorem d_L_233 : decode code 233 = .ok (.aload_n 2, 1) := by decide +kernel
theorem d_L_234 : decode code 234 = .ok (.aload_n 0, 1) := by decide +kernel
theorem d_L_235 : decode code 235 = .ok (.iload_n 3, 1) := by decide +kernel
theorem d_L_236 : decode code 236 = .ok (.iconst 1, 1) := by decide +kernel
theorem d_L_237 : decode code 237 = .ok (.iadd, 1) := by decide +kernel
theorem d_L_238 : decode code 238 = .ok (.iaload, 1) := by decide +kernel
theorem d_L_239 : decode code 239 = .ok (.aload_n 0, 1) := by decide +kernel
theorem d_L_240 : decode code 240 = .ok (.iload_n 3, 1) := by decide +kernel
theorem d_L_241 : decode code 241 = .ok (.iconst 2, 1) := by decide +kernel
theorem d_L_242 : decode code 242 = .ok (.iadd, 1) := by decide +kernel
theorem d_L_243 : decode code 243 = .ok (.iaload, 1) := by decide +kernel
theorem d_L_244 : decode code 244 = .ok (.invokevirtual 41, 3) := by decide +kernel
theorem d_L_247 : decode code 247 = .ok (.if_icmp .eq 94, 3) := by decide +kernel
theorem d_L_250 : decode code 250 = .ok (.iconst 0, 1) := by decide +kernel
theorem d_L_251 : decode code 251 = .ok (.ireturn, 1) := by decide +kernel
theorem d_L_252 : decode code 252 = .ok (.aload_n 1, 1) := by decide +kernel
theorem d_L_253 : decode code 253 = .ok (.aload_n 0, 1) := by decide +kernel
theorem d_L_254 : decode code 254 = .ok (.iload_n 3, 1) := by decide +kernel
theorem d_L_255 : decode code 255 = .ok (.iconst 1, 1) := by decide +kernel
theorem d_L_256 : decode code 256 = .ok (.iadd, 1) := by decide +kernel
theorem d_L_257 : decode code 257 = .ok (.iaload, 1) := by decide +kernel
theorem d_L_258 : decode code 258 = .ok (.aload_n 0, 1) := by decide +kernel
theorem d_L_259 : decode code 259 = .ok (.iload_n 3, 1) := by decide +kernel
theorem d_L_260 : decode code 260 = .ok (.iconst 2, 1) := by decide +kernel
theorem d_L_261 : decode code 261 = .ok (.iadd, 1) := by decide +kernel
theorem d_L_262 : decode code 262 = .ok (.iaload, 1) := by decide +kernel
theorem d_L_263 : decode code 263 = .ok (.aload_n 0, 1) := by decide +kernel
theorem d_L_264 : decode code 264 = .ok (.iload_n 3, 1) := by decide +kernel
theorem d_L_265 : decode code 265 = .ok (.iconst 3, 1) := by decide +kernel
theorem d_L_266 : decode code 266 = .ok (.iadd, 1) := by decide +kernel
theorem d_L_267 : decode code 267 = .ok (.iaload, 1) := by decide +kernel
theorem d_L_268 : decode code 268 = .ok (.invokevirtual 42, 3) := by decide +kernel
theorem d_L_271 : decode code 271 = .ok (.aload_n 2, 1) := by decide +kernel
theorem d_L_272 : decode code 272 = .ok (.aload_n 0, 1) := by decide +kernel
theorem d_L_273 : decode code 273 = .ok (.iload_n 3, 1) := by decide +kernel
theorem d_L_274 : decode code 274 = .ok (.iconst 1, 1) := by decide +kernel
theorem d_L_275 : decode code 275 = .ok (.iadd, 1) := by decide +kernel
theorem d_L_276 : decode code 276 = .ok (.iaload, 1) := by decide +kernel
theorem d_L_277 : decode code 277 = .ok (.aload_n 0, 1) := by decide +kernel
theorem d_L_278 : decode code 278 = .ok (.iload_n 3, 1) := by decide +kernel
theorem d_L_279 : decode code 279 = .ok (.iconst 2, 1) := by decide +kernel
theorem d_L_280 : decode code 280 = .ok (.iadd, 1) := by decide +kernel
theorem d_L_281 : decode code 281 = .ok (.iaload, 1) := by decide +kernel
theorem d_L_282 : decode code 282 = .ok (.aload_n 0, 1) := by decide +kernel
theorem d_L_283 : decode code 283 = .ok (.iload_n 3, 1) := by decide +kernel
theorem d_L_284 : decode code 284 = .ok (.iconst 3, 1) := by decide +kernel
theorem d_L_285 : decode code 285 = .ok (.iadd, 1) := by decide +kernel
theorem d_L_286 : decode code 286 = .ok (.iaload, 1) := by decide +kernel
theorem d_L_287 : decode code 287 = .ok (.invokevirtual 45, 3) := by decide +kernel
theorem d_L_290 : decode code 290 = .ok (.if_icmp .eq 51, 3) := by decide +kernel
theorem d_L_293 : decode code 293 = .ok (.iconst 0, 1) := by decide +kernel
theorem d_L_294 : decode code 294 = .ok (.ireturn, 1) := by decide +kernel
theorem d_L_295 : decode code 295 = .ok (.aload_n 1, 1) := by decide +kernel
theorem d_L_296 : decode code 296 = .ok (.aload_n 0, 1) := by decide +kernel
theorem d_L_297 : decode code 297 = .ok (.iload_n 3, 1) := by decide +kernel
theorem d_L_298 : decode code 298 = .ok (.iconst 1, 1) := by decide +kernel
theorem d_L_299 : decode code 299 = .ok (.iadd, 1) := by decide +kernel
theorem d_L_300 : decode code 300 = .ok (.iaload, 1) := by decide +kernel
theorem d_L_301 : decode code 301 = .ok (.invokevirtual 46, 3) := by decide +kernel
theorem d_L_304 : decode code 304 = .ok (.aload_n 2, 1) := by decide +kernel
theorem d_L_305 : decode code 305 = .ok (.aload_n 0, 1) := by decide +kernel
theorem d_L_306 : decode code 306 = .ok (.iload_n 3, 1) := by decide +kernel
theorem d_L_307 : decode code 307 = .ok (.iconst 1, 1) := by decide +kernel
theorem d_L_308 : decode code 308 = .ok (.iadd, 1) := by decide +kernel
theorem d_L_309 : decode code 309 = .ok (.iaload, 1) := by decide +kernel
theorem d_L_310 : decode code 310 = .ok (.invokevirtual 49, 3) := by decide +kernel
theorem d_L_313 : decode code 313 = .ok (.if_icmp .eq 28, 3) := by decide +kernel
theorem d_L_316 : decode code 316 = .ok (.iconst 0, 1) := by decide +kernel
theorem d_L_317 : decode code 317 = .ok (.ireturn, 1) := by decide +kernel
theorem d_L_318 : decode code 318 = .ok (.aload_n 1, 1) := by decide +kernel
theorem d_L_319 : decode code 319 = .ok (.aload_n 0, 1) := by decide +kernel
theorem d_L_320 : decode code 320 = .ok (.iload_n 3, 1) := by decide +kernel
theorem d_L_321 : decode code 321 = .ok (.iconst 1, 1) := by decide +kernel
theorem d_L_322 : decode code 322 = .ok (.iadd, 1) := by decide +kernel
theorem d_L_323 : decode code 323 = .ok (.iaload, 1) := by decide +kernel
theorem d_L_324 : decode code 324 = .ok (.invokevirtual 50, 3) := by decide +kernel
theorem d_L_327 : decode code 327 = .ok (.aload_n 2, 1) := by decide +kernel
theorem d_L_328 : decode code 328 = .ok (.aload_n 0, 1) := by decide +kernel
theorem d_L_329 : decode code 329 = .ok (.iload_n 3, 1) := by decide +kernel
theorem d_L_330 : decode code 330 = .ok (.iconst 1, 1) := by decide +kernel
theorem d_L_331 : decode code 331 = .ok (.iadd, 1) := by decide +kernel
theorem d_L_332 : decode code 332 = .ok (.iaload, 1) := by decide +kernel
theorem d_L_333 : decode code 333 = .ok (.invokevirtual 53, 3) := by decide +kernel
theorem d_L_336 : decode code 336 = .ok (.if_icmp .eq 5, 3) := by decide +kernel
theorem d_L_339 : decode code 339 = .ok (.iconst 0, 1) := by decide +kernel
theorem d_L_340 : decode code 340 = .ok (.ireturn, 1) := by decide +kernel
theorem d_L_341 : decode code 341 = .ok (.iinc 3 4, 3) := by decide +kernel
theorem d_L_344 : decode code 344 = .ok (.goto (-326), 3) := by decide +kernel
theorem d_L_347 : decode code 347 = .ok (.iconst 1, 1) := by decide +kernel
theorem d_L_348 : decode code 348 = .ok (.ireturn, 1) := by decide +kernel
theorem lo_T : Cond.arrayOver (.object R_T) ∈ lw_tbl := (List.mem_append_right _ (List.mem_of_getElem? (l := tables_1) (i := 17) (by decide +kernel)))
theorem lo_E : Cond.arrayOver (.object R_E) ∈ lw_tbl := (List.mem_append_right _ (List.mem_of_getElem? (l := tables_1) (i := 25) (by decide +kernel)))
theorem ln_E : Cond.methodLinkNest R_M 23 y_E_init "SheetKernel" ∈ lw_tbl := (List.mem_append_right _ (List.mem_of_getElem? (l := tables_1) (i := 27) (by decide +kernel)))
theorem ln_T : Cond.methodLinkNest R_K 30 y_T_init "SheetKernel" ∈ lw_tbl := (List.mem_append_right _ (List.mem_of_getElem? (l := tables_1) (i := 92) (by decide +kernel)))
