theorem lf_K_11 : Cond.fieldLink R_K 11 "SheetKernel" "tasks" "[LSheetKernel$Task;" ∈ TT := mm_ (List.mem_append_right _ (List.mem_of_getElem? (l := tables_1) (i := 135) (by decide +kernel))) rfl
theorem lf_K_18 : Cond.fieldLink R_K 18 "SheetKernel" "memory" "LSheetKernel$Memory;" ∈ TT := mm_ (List.mem_append_right _ (List.mem_of_getElem? (l := tables_1) (i := 136) (by decide +kernel))) rfl
theorem lf_K_22 : Cond.fieldLink R_K 22 "SheetKernel" "kept" "[I" ∈ TT := mm_ (List.mem_append_right _ (List.mem_of_getElem? (l := tables_1) (i := 137) (by decide +kernel))) rfl
theorem lf_K_26 : Cond.fieldLink R_K 26 "SheetKernel" "turn" "I" ∈ TT := mm_ (List.mem_append_right _ (List.mem_of_getElem? (l := tables_1) (i := 142) (by decide +kernel))) rfl
theorem lf_K_46 : Cond.fieldLink R_K 46 "SheetKernel$Memory" "faults" "I" ∈ TT := mm_ (List.mem_append_right _ (List.mem_of_getElem? (l := tables_1) (i := 66) (by decide +kernel))) rfl
theorem lf_K_53 : Cond.fieldLink R_K 53 "SheetKernel$Task" "pages" "[LSheetKernel$Sheet;" ∈ TT := mm_ (List.mem_append_right _ (List.mem_of_getElem? (l := tables_1) (i := 100) (by decide +kernel))) rfl
theorem lf_K_57 : Cond.fieldLink R_K 57 "SheetKernel$Sheet" "words" "[I" ∈ TT := mm_ (List.mem_append_right _ (List.mem_of_getElem? (l := tables_1) (i := 33) (by decide +kernel))) rfl
theorem lf_K_66 : Cond.fieldLink R_K 66 "SheetKernel" "time" "I" ∈ TT := mm_ (List.mem_append_right _ (List.mem_of_getElem? (l := tables_1) (i := 139) (by decide +kernel))) rfl
theorem lf_K_79 : Cond.fieldLink R_K 79 "SheetKernel" "idleTicks" "I" ∈ TT := mm_ (List.mem_append_right _ (List.mem_of_getElem? (l := tables_1) (i := 140) (by decide +kernel))) rfl
theorem lf_K_85 : Cond.fieldLink R_K 85 "SheetKernel$Task" "state" "I" ∈ TT := mm_ (List.mem_append_right _ (List.mem_of_getElem? (l := tables_1) (i := 103) (by decide +kernel))) rfl
theorem lf_K_88 : Cond.fieldLink R_K 88 "SheetKernel$Task" "registers" "[I" ∈ TT := mm_ (List.mem_append_right _ (List.mem_of_getElem? (l := tables_1) (i := 98) (by decide +kernel))) rfl
theorem lf_K_99 : Cond.fieldLink R_K 99 "SheetKernel" "values" "I" ∈ TT := mm_ (List.mem_append_right _ (List.mem_of_getElem? (l := tables_1) (i := 138) (by decide +kernel))) rfl
theorem lf_K_105 : Cond.fieldLink R_K 105 "SheetKernel" "doneInTurn" "I" ∈ TT := mm_ (List.mem_append_right _ (List.mem_of_getElem? (l := tables_1) (i := 143) (by decide +kernel))) rfl
theorem lf_K_108 : Cond.fieldLink R_K 108 "SheetKernel$Memory" "frames" "[LSheetKernel$Sheet;" ∈ TT := mm_ (List.mem_append_right _ (List.mem_of_getElem? (l := tables_1) (i := 61) (by decide +kernel))) rfl
theorem lf_K_115 : Cond.fieldLink R_K 115 "SheetKernel$Memory" "slots" "[LSheetKernel$Sheet;" ∈ TT := mm_ (List.mem_append_right _ (List.mem_of_getElem? (l := tables_1) (i := 63) (by decide +kernel))) rfl
theorem lf_K_118 : Cond.fieldLink R_K 118 "SheetKernel$Memory" "hand" "I" ∈ TT := mm_ (List.mem_append_right _ (List.mem_of_getElem? (l := tables_1) (i := 65) (by decide +kernel))) rfl
theorem lf_K_121 : Cond.fieldLink R_K 121 "SheetKernel$Memory" "written" "I" ∈ TT := mm_ (List.mem_append_right _ (List.mem_of_getElem? (l := tables_1) (i := 69) (by decide +kernel))) rfl
theorem lf_K_124 : Cond.fieldLink R_K 124 "SheetKernel$Memory" "read" "I" ∈ TT := mm_ (List.mem_append_right _ (List.mem_of_getElem? (l := tables_1) (i := 71) (by decide +kernel))) rfl
theorem lf_K_127 : Cond.fieldLink R_K 127 "SheetKernel$Memory" "copies" "I" ∈ TT := mm_ (List.mem_append_right _ (List.mem_of_getElem? (l := tables_1) (i := 73) (by decide +kernel))) rfl
theorem lf_K_130 : Cond.fieldLink R_K 130 "SheetKernel" "wildInstructions" "I" ∈ TT := mm_ (List.mem_append_right _ (List.mem_of_getElem? (l := tables_1) (i := 141) (by decide +kernel))) rfl
theorem lf_K_133 : Cond.fieldLink R_K 133 "SheetKernel$Task" "sleepLeft" "I" ∈ TT := mm_ (List.mem_append_right _ (List.mem_of_getElem? (l := tables_1) (i := 111) (by decide +kernel))) rfl
theorem lf_K_136 : Cond.fieldLink R_K 136 "SheetKernel" "yielded" "Z" ∈ TT := mm_ (List.mem_append_right _ (List.mem_of_getElem? (l := tables_1) (i := 144) (by decide +kernel))) rfl
theorem lf_K_140 : Cond.fieldLink R_K 140 "SheetKernel$Task" "begun" "I" ∈ TT := mm_ (List.mem_append_right _ (List.mem_of_getElem? (l := tables_1) (i := 115) (by decide +kernel))) rfl
theorem lf_K_143 : Cond.fieldLink R_K 143 "SheetKernel$Task" "place" "I" ∈ TT := mm_ (List.mem_append_right _ (List.mem_of_getElem? (l := tables_1) (i := 105) (by decide +kernel))) rfl
theorem lf_K_171 : Cond.fieldLink R_K 171 "SheetKernel$Sheet" "owners" "I" ∈ TT := mm_ (List.mem_append_right _ (List.mem_of_getElem? (l := tables_1) (i := 36) (by decide +kernel))) rfl
theorem lf_K_174 : Cond.fieldLink R_K 174 "SheetKernel$Task" "parent" "I" ∈ TT := mm_ (List.mem_append_right _ (List.mem_of_getElem? (l := tables_1) (i := 107) (by decide +kernel))) rfl
theorem lf_K_177 : Cond.fieldLink R_K 177 "SheetKernel$Task" "code" "I" ∈ TT := mm_ (List.mem_append_right _ (List.mem_of_getElem? (l := tables_1) (i := 109) (by decide +kernel))) rfl
theorem lf_M_11 : Cond.fieldLink R_M 11 "SheetKernel$Memory" "sheets" "[LSheetKernel$Sheet;" ∈ TT := mm_ (List.mem_append_right _ (List.mem_of_getElem? (l := tables_1) (i := 59) (by decide +kernel))) rfl
theorem lf_M_17 : Cond.fieldLink R_M 17 "SheetKernel$Memory" "frames" "[LSheetKernel$Sheet;" ∈ TT := mm_ (List.mem_append_right _ (List.mem_of_getElem? (l := tables_1) (i := 60) (by decide +kernel))) rfl
theorem lf_M_20 : Cond.fieldLink R_M 20 "SheetKernel$Memory" "slots" "[LSheetKernel$Sheet;" ∈ TT := mm_ (List.mem_append_right _ (List.mem_of_getElem? (l := tables_1) (i := 62) (by decide +kernel))) rfl
theorem lf_M_28 : Cond.fieldLink R_M 28 "SheetKernel$Sheet" "words" "[I" ∈ TT := mm_ (List.mem_append_right _ (List.mem_of_getElem? (l := tables_1) (i := 32) (by decide +kernel))) rfl
theorem lf_M_32 : Cond.fieldLink R_M 32 "SheetKernel$Task" "pages" "[LSheetKernel$Sheet;" ∈ TT := mm_ (List.mem_append_right _ (List.mem_of_getElem? (l := tables_1) (i := 101) (by decide +kernel))) rfl
theorem lf_M_41 : Cond.fieldLink R_M 41 "SheetKernel$Sheet" "frame" "I" ∈ TT := mm_ (List.mem_append_right _ (List.mem_of_getElem? (l := tables_1) (i := 38) (by decide +kernel))) rfl
theorem lf_M_45 : Cond.fieldLink R_M 45 "SheetKernel$Task" "faults" "I" ∈ TT := mm_ (List.mem_append_right _ (List.mem_of_getElem? (l := tables_1) (i := 113) (by decide +kernel))) rfl
theorem lf_M_48 : Cond.fieldLink R_M 48 "SheetKernel$Memory" "faults" "I" ∈ TT := mm_ (List.mem_append_right _ (List.mem_of_getElem? (l := tables_1) (i := 67) (by decide +kernel))) rfl
theorem lf_M_49 : Cond.fieldLink R_M 49 "SheetKernel$Sheet" "slot" "I" ∈ TT := mm_ (List.mem_append_right _ (List.mem_of_getElem? (l := tables_1) (i := 40) (by decide +kernel))) rfl
theorem lf_M_52 : Cond.fieldLink R_M 52 "SheetKernel$Memory" "read" "I" ∈ TT := mm_ (List.mem_append_right _ (List.mem_of_getElem? (l := tables_1) (i := 70) (by decide +kernel))) rfl
theorem lf_M_59 : Cond.fieldLink R_M 59 "SheetKernel$Sheet" "owners" "I" ∈ TT := mm_ (List.mem_append_right _ (List.mem_of_getElem? (l := tables_1) (i := 35) (by decide +kernel))) rfl
theorem lf_M_66 : Cond.fieldLink R_M 66 "SheetKernel$Sheet" "used" "Z" ∈ TT := mm_ (List.mem_append_right _ (List.mem_of_getElem? (l := tables_1) (i := 42) (by decide +kernel))) rfl
theorem lf_M_70 : Cond.fieldLink R_M 70 "SheetKernel$Sheet" "changed" "Z" ∈ TT := mm_ (List.mem_append_right _ (List.mem_of_getElem? (l := tables_1) (i := 44) (by decide +kernel))) rfl
theorem lf_M_85 : Cond.fieldLink R_M 85 "SheetKernel$Memory" "copies" "I" ∈ TT := mm_ (List.mem_append_right _ (List.mem_of_getElem? (l := tables_1) (i := 72) (by decide +kernel))) rfl
theorem lf_M_95 : Cond.fieldLink R_M 95 "SheetKernel$Memory" "hand" "I" ∈ TT := mm_ (List.mem_append_right _ (List.mem_of_getElem? (l := tables_1) (i := 64) (by decide +kernel))) rfl
theorem lf_M_101 : Cond.fieldLink R_M 101 "SheetKernel$Memory" "written" "I" ∈ TT := mm_ (List.mem_append_right _ (List.mem_of_getElem? (l := tables_1) (i := 68) (by decide +kernel))) rfl
theorem lf_E_9 : Cond.fieldLink R_E 9 "SheetKernel$Sheet" "words" "[I" ∈ TT := mm_ (List.mem_append_right _ (List.mem_of_getElem? (l := tables_1) (i := 31) (by decide +kernel))) rfl
theorem lf_E_15 : Cond.fieldLink R_E 15 "SheetKernel$Sheet" "frame" "I" ∈ TT := mm_ (List.mem_append_right _ (List.mem_of_getElem? (l := tables_1) (i := 37) (by decide +kernel))) rfl
theorem lf_E_19 : Cond.fieldLink R_E 19 "SheetKernel$Sheet" "slot" "I" ∈ TT := mm_ (List.mem_append_right _ (List.mem_of_getElem? (l := tables_1) (i := 39) (by decide +kernel))) rfl
theorem lf_E_22 : Cond.fieldLink R_E 22 "SheetKernel$Sheet" "used" "Z" ∈ TT := mm_ (List.mem_append_right _ (List.mem_of_getElem? (l := tables_1) (i := 41) (by decide +kernel))) rfl
theorem lf_E_26 : Cond.fieldLink R_E 26 "SheetKernel$Sheet" "changed" "Z" ∈ TT := mm_ (List.mem_append_right _ (List.mem_of_getElem? (l := tables_1) (i := 43) (by decide +kernel))) rfl
theorem lf_E_29 : Cond.fieldLink R_E 29 "SheetKernel$Sheet" "owners" "I" ∈ TT := mm_ (List.mem_append_right _ (List.mem_of_getElem? (l := tables_1) (i := 34) (by decide +kernel))) rfl
theorem lf_T_9 : Cond.fieldLink R_T 9 "SheetKernel$Task" "registers" "[I" ∈ TT := mm_ (List.mem_append_right _ (List.mem_of_getElem? (l := tables_1) (i := 97) (by decide +kernel))) rfl
theorem lf_T_17 : Cond.fieldLink R_T 17 "SheetKernel$Task" "pages" "[LSheetKernel$Sheet;" ∈ TT := mm_ (List.mem_append_right _ (List.mem_of_getElem? (l := tables_1) (i := 99) (by decide +kernel))) rfl
theorem lf_T_21 : Cond.fieldLink R_T 21 "SheetKernel$Task" "state" "I" ∈ TT := mm_ (List.mem_append_right _ (List.mem_of_getElem? (l := tables_1) (i := 102) (by decide +kernel))) rfl
theorem lf_T_25 : Cond.fieldLink R_T 25 "SheetKernel$Task" "parent" "I" ∈ TT := mm_ (List.mem_append_right _ (List.mem_of_getElem? (l := tables_1) (i := 106) (by decide +kernel))) rfl
theorem lf_T_34 : Cond.fieldLink R_T 34 "SheetKernel$Task" "place" "I" ∈ TT := mm_ (List.mem_append_right _ (List.mem_of_getElem? (l := tables_1) (i := 104) (by decide +kernel))) rfl
theorem lf_T_37 : Cond.fieldLink R_T 37 "SheetKernel$Task" "code" "I" ∈ TT := mm_ (List.mem_append_right _ (List.mem_of_getElem? (l := tables_1) (i := 108) (by decide +kernel))) rfl
theorem lf_T_40 : Cond.fieldLink R_T 40 "SheetKernel$Task" "sleepLeft" "I" ∈ TT := mm_ (List.mem_append_right _ (List.mem_of_getElem? (l := tables_1) (i := 110) (by decide +kernel))) rfl
theorem lf_T_43 : Cond.fieldLink R_T 43 "SheetKernel$Task" "faults" "I" ∈ TT := mm_ (List.mem_append_right _ (List.mem_of_getElem? (l := tables_1) (i := 112) (by decide +kernel))) rfl
theorem lf_T_46 : Cond.fieldLink R_T 46 "SheetKernel$Task" "begun" "I" ∈ TT := mm_ (List.mem_append_right _ (List.mem_of_getElem? (l := tables_1) (i := 114) (by decide +kernel))) rfl
theorem lf_Q_7 : Cond.fieldLink R_Q 7 "SheetKernelModel" "state" "[I" ∈ TT := mm_ (List.mem_append_right _ (List.mem_of_getElem? (l := tables_1) (i := 344) (by decide +kernel))) rfl
theorem lf_Q_13 : Cond.fieldLink R_Q 13 "SheetKernelModel" "place" "[I" ∈ TT := mm_ (List.mem_append_right _ (List.mem_of_getElem? (l := tables_1) (i := 345) (by decide +kernel))) rfl
theorem lf_Q_16 : Cond.fieldLink R_Q 16 "SheetKernelModel" "parent" "[I" ∈ TT := mm_ (List.mem_append_right _ (List.mem_of_getElem? (l := tables_1) (i := 346) (by decide +kernel))) rfl
theorem lf_Q_19 : Cond.fieldLink R_Q 19 "SheetKernelModel" "code" "[I" ∈ TT := mm_ (List.mem_append_right _ (List.mem_of_getElem? (l := tables_1) (i := 347) (by decide +kernel))) rfl
theorem lf_Q_22 : Cond.fieldLink R_Q 22 "SheetKernelModel" "wake" "[I" ∈ TT := mm_ (List.mem_append_right _ (List.mem_of_getElem? (l := tables_1) (i := 348) (by decide +kernel))) rfl
theorem lf_Q_25 : Cond.fieldLink R_Q 25 "SheetKernelModel" "faults" "[I" ∈ TT := mm_ (List.mem_append_right _ (List.mem_of_getElem? (l := tables_1) (i := 349) (by decide +kernel))) rfl
theorem lf_Q_28 : Cond.fieldLink R_Q 28 "SheetKernelModel" "begun" "[I" ∈ TT := mm_ (List.mem_append_right _ (List.mem_of_getElem? (l := tables_1) (i := 350) (by decide +kernel))) rfl
theorem lf_Q_31 : Cond.fieldLink R_Q 31 "SheetKernelModel" "register" "[I" ∈ TT := mm_ (List.mem_append_right _ (List.mem_of_getElem? (l := tables_1) (i := 351) (by decide +kernel))) rfl
theorem lf_Q_34 : Cond.fieldLink R_Q 34 "SheetKernelModel" "page" "[I" ∈ TT := mm_ (List.mem_append_right _ (List.mem_of_getElem? (l := tables_1) (i := 352) (by decide +kernel))) rfl
theorem lf_Q_37 : Cond.fieldLink R_Q 37 "SheetKernelModel" "is" "[Z" ∈ TT := mm_ (List.mem_append_right _ (List.mem_of_getElem? (l := tables_1) (i := 353) (by decide +kernel))) rfl
theorem lf_Q_41 : Cond.fieldLink R_Q 41 "SheetKernelModel" "used" "[Z" ∈ TT := mm_ (List.mem_append_right _ (List.mem_of_getElem? (l := tables_1) (i := 354) (by decide +kernel))) rfl
theorem lf_Q_44 : Cond.fieldLink R_Q 44 "SheetKernelModel" "changed" "[Z" ∈ TT := mm_ (List.mem_append_right _ (List.mem_of_getElem? (l := tables_1) (i := 355) (by decide +kernel))) rfl
theorem lf_Q_47 : Cond.fieldLink R_Q 47 "SheetKernelModel" "frame" "[I" ∈ TT := mm_ (List.mem_append_right _ (List.mem_of_getElem? (l := tables_1) (i := 356) (by decide +kernel))) rfl
theorem lf_Q_50 : Cond.fieldLink R_Q 50 "SheetKernelModel" "slot" "[I" ∈ TT := mm_ (List.mem_append_right _ (List.mem_of_getElem? (l := tables_1) (i := 357) (by decide +kernel))) rfl
theorem lf_Q_53 : Cond.fieldLink R_Q 53 "SheetKernelModel" "word" "[I" ∈ TT := mm_ (List.mem_append_right _ (List.mem_of_getElem? (l := tables_1) (i := 358) (by decide +kernel))) rfl
theorem lf_Q_56 : Cond.fieldLink R_Q 56 "SheetKernelModel" "output" "[I" ∈ TT := mm_ (List.mem_append_right _ (List.mem_of_getElem? (l := tables_1) (i := 359) (by decide +kernel))) rfl
theorem lf_Q_59 : Cond.fieldLink R_Q 59 "SheetKernelModel" "counts" "[I" ∈ TT := mm_ (List.mem_append_right _ (List.mem_of_getElem? (l := tables_1) (i := 360) (by decide +kernel))) rfl
theorem lf_Q_62 : Cond.fieldLink R_Q 62 "SheetKernelModel" "turn" "I" ∈ TT := mm_ (List.mem_append_right _ (List.mem_of_getElem? (l := tables_1) (i := 362) (by decide +kernel))) rfl
theorem lf_Q_77 : Cond.fieldLink R_Q 77 "SheetKernelModel" "hand" "I" ∈ TT := mm_ (List.mem_append_right _ (List.mem_of_getElem? (l := tables_1) (i := 364) (by decide +kernel))) rfl
theorem lf_Q_123 : Cond.fieldLink R_Q 123 "SheetKernelModel" "time" "I" ∈ TT := mm_ (List.mem_append_right _ (List.mem_of_getElem? (l := tables_1) (i := 361) (by decide +kernel))) rfl
theorem lf_Q_126 : Cond.fieldLink R_Q 126 "SheetKernelModel" "over" "Z" ∈ TT := mm_ (List.mem_append_right _ (List.mem_of_getElem? (l := tables_1) (i := 366) (by decide +kernel))) rfl
theorem lf_Q_130 : Cond.fieldLink R_Q 130 "SheetKernelModel" "inTurn" "I" ∈ TT := mm_ (List.mem_append_right _ (List.mem_of_getElem? (l := tables_1) (i := 363) (by decide +kernel))) rfl
theorem lf_Q_143 : Cond.fieldLink R_Q 143 "SheetKernelModel" "print" "I" ∈ TT := mm_ (List.mem_append_right _ (List.mem_of_getElem? (l := tables_1) (i := 365) (by decide +kernel))) rfl
set_option maxRecDepth 20000 in
theorem wc_K_init : Cond.code y_K_init b_K_init 2 (none) ∈ TT := mm_ (List.mem_append_right _ (List.mem_of_getElem? (l := tables_1) (i := 12) rfl)) rfl
theorem wi_K_init : Cond.instanceMethod y_K_init ∈ TT := mm_ (List.mem_append_right _ (List.mem_of_getElem? (l := tables_1) (i := 11) (by decide +kernel))) rfl
set_option maxRecDepth 20000 in
theorem wc_M_init : Cond.code y_M_init b_M_init 2 (none) ∈ TT := mm_ (List.mem_append_right _ (List.mem_of_getElem? (l := tables_1) (i := 22) rfl)) rfl
theorem wi_M_init : Cond.instanceMethod y_M_init ∈ TT := mm_ (List.mem_append_right _ (List.mem_of_getElem? (l := tables_1) (i := 21) (by decide +kernel))) rfl
set_option maxRecDepth 20000 in
theorem wc_E_init : Cond.code y_E_init b_E_init 1 (none) ∈ TT := mm_ (List.mem_append_right _ (List.mem_of_getElem? (l := tables_1) (i := 29) rfl)) rfl
theorem wi_E_init : Cond.instanceMethod y_E_init ∈ TT := mm_ (List.mem_append_right _ (List.mem_of_getElem? (l := tables_1) (i := 28) (by decide +kernel))) rfl
set_option maxRecDepth 20000 in
theorem wc_T_init : Cond.code y_T_init b_T_init 1 (none) ∈ TT := mm_ (List.mem_append_right _ (List.mem_of_getElem? (l := tables_1) (i := 94) rfl)) rfl
theorem wi_T_init : Cond.instanceMethod y_T_init ∈ TT := mm_ (List.mem_append_right _ (List.mem_of_getElem? (l := tables_1) (i := 93) (by decide +kernel))) rfl
set_option maxRecDepth 20000 in
theorem wc_K_spawn : Cond.code y_K_spawn b_K_spawn 2 (some .int) ∈ TT := mm_ (List.mem_append_right _ (List.mem_of_getElem? (l := tables_1) (i := 169) rfl)) rfl
theorem wi_K_spawn : Cond.instanceMethod y_K_spawn ∈ TT := mm_ (List.mem_append_right _ (List.mem_of_getElem? (l := tables_1) (i := 167) (by decide +kernel))) rfl
theorem ws_K_spawn : Cond.selects R_K y_K_spawn y_K_spawn ∈ TT := mm_ (List.mem_append_right _ (List.mem_of_getElem? (l := tables_1) (i := 168) (by decide +kernel))) rfl
set_option maxRecDepth 20000 in
theorem wc_K_leastAbsent : Cond.code y_K_leastAbsent b_K_leastAbsent 2 (some .int) ∈ TT := mm_ (List.mem_append_right _ (List.mem_of_getElem? (l := tables_1) (i := 173) rfl)) rfl
theorem wi_K_leastAbsent : Cond.instanceMethod y_K_leastAbsent ∈ TT := mm_ (List.mem_append_right _ (List.mem_of_getElem? (l := tables_1) (i := 172) (by decide +kernel))) rfl
theorem ws_K_leastAbsent : Cond.selects R_K y_K_leastAbsent y_K_leastAbsent ∈ TT := mm_ (List.mem_append_left _ (List.mem_of_getElem? (l := k2_sels lw_privs) (i := 0) (by decide +kernel))) rfl
set_option maxRecDepth 20000 in
theorem wc_T_begin : Cond.code y_T_begin b_T_begin 2 (none) ∈ TT := mm_ (List.mem_append_right _ (List.mem_of_getElem? (l := tables_1) (i := 177) rfl)) rfl
theorem wi_T_begin : Cond.instanceMethod y_T_begin ∈ TT := mm_ (List.mem_append_right _ (List.mem_of_getElem? (l := tables_1) (i := 175) (by decide +kernel))) rfl
theorem ws_T_begin : Cond.selects R_T y_T_begin y_T_begin ∈ TT := mm_ (List.mem_append_right _ (List.mem_of_getElem? (l := tables_1) (i := 176) (by decide +kernel))) rfl
set_option maxRecDepth 20000 in
theorem wc_J_fill : Cond.code y_J_fill b_J_fill 4 (none) ∈ TT := mm_ (List.mem_append_right _ (List.mem_of_getElem? (l := tables_1) (i := 180) rfl)) rfl
theorem wt_J_fill : Cond.static y_J_fill ∈ TT := mm_ (List.mem_append_right _ (List.mem_of_getElem? (l := tables_1) (i := 179) (by decide +kernel))) rfl
set_option maxRecDepth 20000 in
theorem wc_K_poke : Cond.code y_K_poke b_K_poke 5 (some .int) ∈ TT := mm_ (List.mem_append_right _ (List.mem_of_getElem? (l := tables_1) (i := 184) rfl)) rfl
theorem wi_K_poke : Cond.instanceMethod y_K_poke ∈ TT := mm_ (List.mem_append_right _ (List.mem_of_getElem? (l := tables_1) (i := 182) (by decide +kernel))) rfl
theorem ws_K_poke : Cond.selects R_K y_K_poke y_K_poke ∈ TT := mm_ (List.mem_append_right _ (List.mem_of_getElem? (l := tables_1) (i := 183) (by decide +kernel))) rfl
set_option maxRecDepth 20000 in
theorem wc_K_lives : Cond.code y_K_lives b_K_lives 2 (some .boolean) ∈ TT := mm_ (List.mem_append_right _ (List.mem_of_getElem? (l := tables_1) (i := 188) rfl)) rfl
theorem wi_K_lives : Cond.instanceMethod y_K_lives ∈ TT := mm_ (List.mem_append_right _ (List.mem_of_getElem? (l := tables_1) (i := 187) (by decide +kernel))) rfl
theorem ws_K_lives : Cond.selects R_K y_K_lives y_K_lives ∈ TT := mm_ (List.mem_append_left _ (List.mem_of_getElem? (l := k2_sels lw_privs) (i := 1) (by decide +kernel))) rfl
set_option maxRecDepth 20000 in
theorem wc_K_isThere : Cond.code y_K_isThere b_K_isThere 2 (some .boolean) ∈ TT := mm_ (List.mem_append_right _ (List.mem_of_getElem? (l := tables_1) (i := 192) rfl)) rfl
theorem wi_K_isThere : Cond.instanceMethod y_K_isThere ∈ TT := mm_ (List.mem_append_right _ (List.mem_of_getElem? (l := tables_1) (i := 191) (by decide +kernel))) rfl
theorem ws_K_isThere : Cond.selects R_K y_K_isThere y_K_isThere ∈ TT := mm_ (List.mem_append_left _ (List.mem_of_getElem? (l := k2_sels lw_privs) (i := 2) (by decide +kernel))) rfl
set_option maxRecDepth 20000 in
theorem wc_K_isTask : Cond.code y_K_isTask b_K_isTask 1 (some .boolean) ∈ TT := mm_ (List.mem_append_right _ (List.mem_of_getElem? (l := tables_1) (i := 195) rfl)) rfl
theorem wt_K_isTask : Cond.static y_K_isTask ∈ TT := mm_ (List.mem_append_right _ (List.mem_of_getElem? (l := tables_1) (i := 194) (by decide +kernel))) rfl
set_option maxRecDepth 20000 in
theorem wc_K_isAddress : Cond.code y_K_isAddress b_K_isAddress 1 (some .boolean) ∈ TT := mm_ (List.mem_append_right _ (List.mem_of_getElem? (l := tables_1) (i := 198) rfl)) rfl
theorem wt_K_isAddress : Cond.static y_K_isAddress ∈ TT := mm_ (List.mem_append_right _ (List.mem_of_getElem? (l := tables_1) (i := 197) (by decide +kernel))) rfl
set_option maxRecDepth 20000 in
theorem wc_M_write : Cond.code y_M_write b_M_write 4 (none) ∈ TT := mm_ (List.mem_append_right _ (List.mem_of_getElem? (l := tables_1) (i := 202) rfl)) rfl
theorem wi_M_write : Cond.instanceMethod y_M_write ∈ TT := mm_ (List.mem_append_right _ (List.mem_of_getElem? (l := tables_1) (i := 200) (by decide +kernel))) rfl
theorem ws_M_write : Cond.selects R_M y_M_write y_M_write ∈ TT := mm_ (List.mem_append_right _ (List.mem_of_getElem? (l := tables_1) (i := 201) (by decide +kernel))) rfl
set_option maxRecDepth 20000 in
theorem wc_M_reach : Cond.code y_M_reach b_M_reach 5 (some (.object "SheetKernel$Sheet")) ∈ TT := mm_ (List.mem_append_right _ (List.mem_of_getElem? (l := tables_1) (i := 206) rfl)) rfl
theorem wi_M_reach : Cond.instanceMethod y_M_reach ∈ TT := mm_ (List.mem_append_right _ (List.mem_of_getElem? (l := tables_1) (i := 204) (by decide +kernel))) rfl
theorem ws_M_reach : Cond.selects R_M y_M_reach y_M_reach ∈ TT := mm_ (List.mem_append_right _ (List.mem_of_getElem? (l := tables_1) (i := 205) (by decide +kernel))) rfl
set_option maxRecDepth 20000 in
theorem wc_M_newSheet : Cond.code y_M_newSheet b_M_newSheet 3 (some (.object "SheetKernel$Sheet")) ∈ TT := mm_ (List.mem_append_right _ (List.mem_of_getElem? (l := tables_1) (i := 210) rfl)) rfl
theorem wi_M_newSheet : Cond.instanceMethod y_M_newSheet ∈ TT := mm_ (List.mem_append_right _ (List.mem_of_getElem? (l := tables_1) (i := 208) (by decide +kernel))) rfl
theorem ws_M_newSheet : Cond.selects R_M y_M_newSheet y_M_newSheet ∈ TT := mm_ (List.mem_append_right _ (List.mem_of_getElem? (l := tables_1) (i := 209) (by decide +kernel))) rfl
set_option maxRecDepth 20000 in
theorem wc_M_layInFrame : Cond.code y_M_layInFrame b_M_layInFrame 3 (none) ∈ TT := mm_ (List.mem_append_right _ (List.mem_of_getElem? (l := tables_1) (i := 215) rfl)) rfl
theorem wi_M_layInFrame : Cond.instanceMethod y_M_layInFrame ∈ TT := mm_ (List.mem_append_right _ (List.mem_of_getElem? (l := tables_1) (i := 213) (by decide +kernel))) rfl
theorem ws_M_layInFrame : Cond.selects R_M y_M_layInFrame y_M_layInFrame ∈ TT := mm_ (List.mem_append_right _ (List.mem_of_getElem? (l := tables_1) (i := 214) (by decide +kernel))) rfl
set_option maxRecDepth 20000 in
theorem wc_M_chooseFrame : Cond.code y_M_chooseFrame b_M_chooseFrame 2 (some .int) ∈ TT := mm_ (List.mem_append_right _ (List.mem_of_getElem? (l := tables_1) (i := 219) rfl)) rfl
theorem wi_M_chooseFrame : Cond.instanceMethod y_M_chooseFrame ∈ TT := mm_ (List.mem_append_right _ (List.mem_of_getElem? (l := tables_1) (i := 217) (by decide +kernel))) rfl
theorem ws_M_chooseFrame : Cond.selects R_M y_M_chooseFrame y_M_chooseFrame ∈ TT := mm_ (List.mem_append_right _ (List.mem_of_getElem? (l := tables_1) (i := 218) (by decide +kernel))) rfl
set_option maxRecDepth 20000 in
theorem wc_M_goOut : Cond.code y_M_goOut b_M_goOut 2 (none) ∈ TT := mm_ (List.mem_append_right _ (List.mem_of_getElem? (l := tables_1) (i := 223) rfl)) rfl
theorem wi_M_goOut : Cond.instanceMethod y_M_goOut ∈ TT := mm_ (List.mem_append_right _ (List.mem_of_getElem? (l := tables_1) (i := 221) (by decide +kernel))) rfl
theorem ws_M_goOut : Cond.selects R_M y_M_goOut y_M_goOut ∈ TT := mm_ (List.mem_append_right _ (List.mem_of_getElem? (l := tables_1) (i := 222) (by decide +kernel))) rfl
set_option maxRecDepth 20000 in
theorem wc_M_leastFreeSlot : Cond.code y_M_leastFreeSlot b_M_leastFreeSlot 2 (some .int) ∈ TT := mm_ (List.mem_append_right _ (List.mem_of_getElem? (l := tables_1) (i := 227) rfl)) rfl
theorem wi_M_leastFreeSlot : Cond.instanceMethod y_M_leastFreeSlot ∈ TT := mm_ (List.mem_append_right _ (List.mem_of_getElem? (l := tables_1) (i := 225) (by decide +kernel))) rfl
theorem ws_M_leastFreeSlot : Cond.selects R_M y_M_leastFreeSlot y_M_leastFreeSlot ∈ TT := mm_ (List.mem_append_right _ (List.mem_of_getElem? (l := tables_1) (i := 226) (by decide +kernel))) rfl
set_option maxRecDepth 20000 in
theorem wc_M_copyOf : Cond.code y_M_copyOf b_M_copyOf 3 (some (.object "SheetKernel$Sheet")) ∈ TT := mm_ (List.mem_append_right _ (List.mem_of_getElem? (l := tables_1) (i := 231) rfl)) rfl
theorem wi_M_copyOf : Cond.instanceMethod y_M_copyOf ∈ TT := mm_ (List.mem_append_right _ (List.mem_of_getElem? (l := tables_1) (i := 229) (by decide +kernel))) rfl
theorem ws_M_copyOf : Cond.selects R_M y_M_copyOf y_M_copyOf ∈ TT := mm_ (List.mem_append_right _ (List.mem_of_getElem? (l := tables_1) (i := 230) (by decide +kernel))) rfl
set_option maxRecDepth 20000 in
theorem wc_K_peek : Cond.code y_K_peek b_K_peek 4 (some .int) ∈ TT := mm_ (List.mem_append_right _ (List.mem_of_getElem? (l := tables_1) (i := 238) rfl)) rfl
theorem wi_K_peek : Cond.instanceMethod y_K_peek ∈ TT := mm_ (List.mem_append_right _ (List.mem_of_getElem? (l := tables_1) (i := 236) (by decide +kernel))) rfl
theorem ws_K_peek : Cond.selects R_K y_K_peek y_K_peek ∈ TT := mm_ (List.mem_append_right _ (List.mem_of_getElem? (l := tables_1) (i := 237) (by decide +kernel))) rfl
set_option maxRecDepth 20000 in
theorem wc_K_kill : Cond.code y_K_kill b_K_kill 2 (some .boolean) ∈ TT := mm_ (List.mem_append_right _ (List.mem_of_getElem? (l := tables_1) (i := 242) rfl)) rfl
theorem wi_K_kill : Cond.instanceMethod y_K_kill ∈ TT := mm_ (List.mem_append_right _ (List.mem_of_getElem? (l := tables_1) (i := 240) (by decide +kernel))) rfl
theorem ws_K_kill : Cond.selects R_K y_K_kill y_K_kill ∈ TT := mm_ (List.mem_append_right _ (List.mem_of_getElem? (l := tables_1) (i := 241) (by decide +kernel))) rfl
set_option maxRecDepth 20000 in
theorem wc_K_end : Cond.code y_K_end b_K_end 5 (none) ∈ TT := mm_ (List.mem_append_right _ (List.mem_of_getElem? (l := tables_1) (i := 246) rfl)) rfl
theorem wi_K_end : Cond.instanceMethod y_K_end ∈ TT := mm_ (List.mem_append_right _ (List.mem_of_getElem? (l := tables_1) (i := 245) (by decide +kernel))) rfl
theorem ws_K_end : Cond.selects R_K y_K_end y_K_end ∈ TT := mm_ (List.mem_append_left _ (List.mem_of_getElem? (l := k2_sels lw_privs) (i := 3) (by decide +kernel))) rfl
set_option maxRecDepth 20000 in
theorem wc_M_releaseAll : Cond.code y_M_releaseAll b_M_releaseAll 4 (none) ∈ TT := mm_ (List.mem_append_right _ (List.mem_of_getElem? (l := tables_1) (i := 250) rfl)) rfl
theorem wi_M_releaseAll : Cond.instanceMethod y_M_releaseAll ∈ TT := mm_ (List.mem_append_right _ (List.mem_of_getElem? (l := tables_1) (i := 248) (by decide +kernel))) rfl
theorem ws_M_releaseAll : Cond.selects R_M y_M_releaseAll y_M_releaseAll ∈ TT := mm_ (List.mem_append_right _ (List.mem_of_getElem? (l := tables_1) (i := 249) (by decide +kernel))) rfl
set_option maxRecDepth 20000 in
theorem wc_M_release : Cond.code y_M_release b_M_release 2 (none) ∈ TT := mm_ (List.mem_append_right _ (List.mem_of_getElem? (l := tables_1) (i := 254) rfl)) rfl
theorem wi_M_release : Cond.instanceMethod y_M_release ∈ TT := mm_ (List.mem_append_right _ (List.mem_of_getElem? (l := tables_1) (i := 252) (by decide +kernel))) rfl
theorem ws_M_release : Cond.selects R_M y_M_release y_M_release ∈ TT := mm_ (List.mem_append_right _ (List.mem_of_getElem? (l := tables_1) (i := 253) (by decide +kernel))) rfl
set_option maxRecDepth 20000 in
theorem wc_K_orphanChildren : Cond.code y_K_orphanChildren b_K_orphanChildren 4 (none) ∈ TT := mm_ (List.mem_append_right _ (List.mem_of_getElem? (l := tables_1) (i := 258) rfl)) rfl
theorem wi_K_orphanChildren : Cond.instanceMethod y_K_orphanChildren ∈ TT := mm_ (List.mem_append_right _ (List.mem_of_getElem? (l := tables_1) (i := 257) (by decide +kernel))) rfl
theorem ws_K_orphanChildren : Cond.selects R_K y_K_orphanChildren y_K_orphanChildren ∈ TT := mm_ (List.mem_append_left _ (List.mem_of_getElem? (l := k2_sels lw_privs) (i := 4) (by decide +kernel))) rfl
set_option maxRecDepth 20000 in
theorem wc_T_leave : Cond.code y_T_leave b_T_leave 1 (none) ∈ TT := mm_ (List.mem_append_right _ (List.mem_of_getElem? (l := tables_1) (i := 262) rfl)) rfl
theorem wi_T_leave : Cond.instanceMethod y_T_leave ∈ TT := mm_ (List.mem_append_right _ (List.mem_of_getElem? (l := tables_1) (i := 260) (by decide +kernel))) rfl
theorem ws_T_leave : Cond.selects R_T y_T_leave y_T_leave ∈ TT := mm_ (List.mem_append_right _ (List.mem_of_getElem? (l := tables_1) (i := 261) (by decide +kernel))) rfl
set_option maxRecDepth 20000 in
theorem wc_K_run : Cond.code y_K_run b_K_run 4 (some .int) ∈ TT := mm_ (List.mem_append_right _ (List.mem_of_getElem? (l := tables_1) (i := 266) rfl)) rfl
theorem wi_K_run : Cond.instanceMethod y_K_run ∈ TT := mm_ (List.mem_append_right _ (List.mem_of_getElem? (l := tables_1) (i := 264) (by decide +kernel))) rfl
theorem ws_K_run : Cond.selects R_K y_K_run y_K_run ∈ TT := mm_ (List.mem_append_right _ (List.mem_of_getElem? (l := tables_1) (i := 265) (by decide +kernel))) rfl
set_option maxRecDepth 20000 in
theorem wc_K_wakeSleepers : Cond.code y_K_wakeSleepers b_K_wakeSleepers 3 (none) ∈ TT := mm_ (List.mem_append_right _ (List.mem_of_getElem? (l := tables_1) (i := 270) rfl)) rfl
theorem wi_K_wakeSleepers : Cond.instanceMethod y_K_wakeSleepers ∈ TT := mm_ (List.mem_append_right _ (List.mem_of_getElem? (l := tables_1) (i := 269) (by decide +kernel))) rfl
theorem ws_K_wakeSleepers : Cond.selects R_K y_K_wakeSleepers y_K_wakeSleepers ∈ TT := mm_ (List.mem_append_left _ (List.mem_of_getElem? (l := k2_sels lw_privs) (i := 5) (by decide +kernel))) rfl
set_option maxRecDepth 20000 in
theorem wc_K_giveTurn : Cond.code y_K_giveTurn b_K_giveTurn 4 (some .boolean) ∈ TT := mm_ (List.mem_append_right _ (List.mem_of_getElem? (l := tables_1) (i := 274) rfl)) rfl
theorem wi_K_giveTurn : Cond.instanceMethod y_K_giveTurn ∈ TT := mm_ (List.mem_append_right _ (List.mem_of_getElem? (l := tables_1) (i := 273) (by decide +kernel))) rfl
theorem ws_K_giveTurn : Cond.selects R_K y_K_giveTurn y_K_giveTurn ∈ TT := mm_ (List.mem_append_left _ (List.mem_of_getElem? (l := k2_sels lw_privs) (i := 6) (by decide +kernel))) rfl
set_option maxRecDepth 20000 in
theorem wc_K_doInstruction : Cond.code y_K_doInstruction b_K_doInstruction 6 (none) ∈ TT := mm_ (List.mem_append_right _ (List.mem_of_getElem? (l := tables_1) (i := 278) rfl)) rfl
theorem wi_K_doInstruction : Cond.instanceMethod y_K_doInstruction ∈ TT := mm_ (List.mem_append_right _ (List.mem_of_getElem? (l := tables_1) (i := 277) (by decide +kernel))) rfl
theorem ws_K_doInstruction : Cond.selects R_K y_K_doInstruction y_K_doInstruction ∈ TT := mm_ (List.mem_append_left _ (List.mem_of_getElem? (l := k2_sels lw_privs) (i := 7) (by decide +kernel))) rfl
set_option maxRecDepth 20000 in
theorem wc_M_fetch : Cond.code y_M_fetch b_M_fetch 3 (some .int) ∈ TT := mm_ (List.mem_append_right _ (List.mem_of_getElem? (l := tables_1) (i := 282) rfl)) rfl
theorem wi_M_fetch : Cond.instanceMethod y_M_fetch ∈ TT := mm_ (List.mem_append_right _ (List.mem_of_getElem? (l := tables_1) (i := 280) (by decide +kernel))) rfl
theorem ws_M_fetch : Cond.selects R_M y_M_fetch y_M_fetch ∈ TT := mm_ (List.mem_append_right _ (List.mem_of_getElem? (l := tables_1) (i := 281) (by decide +kernel))) rfl
set_option maxRecDepth 20000 in
theorem wc_K_obey : Cond.code y_K_obey b_K_obey 8 (some .boolean) ∈ TT := mm_ (List.mem_append_right _ (List.mem_of_getElem? (l := tables_1) (i := 286) rfl)) rfl
theorem wi_K_obey : Cond.instanceMethod y_K_obey ∈ TT := mm_ (List.mem_append_right _ (List.mem_of_getElem? (l := tables_1) (i := 285) (by decide +kernel))) rfl
theorem ws_K_obey : Cond.selects R_K y_K_obey y_K_obey ∈ TT := mm_ (List.mem_append_left _ (List.mem_of_getElem? (l := k2_sels lw_privs) (i := 8) (by decide +kernel))) rfl
set_option maxRecDepth 20000 in
theorem wc_K_callSystem : Cond.code y_K_callSystem b_K_callSystem 5 (some .boolean) ∈ TT := mm_ (List.mem_append_right _ (List.mem_of_getElem? (l := tables_1) (i := 290) rfl)) rfl
theorem wi_K_callSystem : Cond.instanceMethod y_K_callSystem ∈ TT := mm_ (List.mem_append_right _ (List.mem_of_getElem? (l := tables_1) (i := 289) (by decide +kernel))) rfl
theorem ws_K_callSystem : Cond.selects R_K y_K_callSystem y_K_callSystem ∈ TT := mm_ (List.mem_append_left _ (List.mem_of_getElem? (l := k2_sels lw_privs) (i := 9) (by decide +kernel))) rfl
set_option maxRecDepth 20000 in
theorem wc_K_print : Cond.code y_K_print b_K_print 2 (none) ∈ TT := mm_ (List.mem_append_right _ (List.mem_of_getElem? (l := tables_1) (i := 294) rfl)) rfl
theorem wi_K_print : Cond.instanceMethod y_K_print ∈ TT := mm_ (List.mem_append_right _ (List.mem_of_getElem? (l := tables_1) (i := 293) (by decide +kernel))) rfl
theorem ws_K_print : Cond.selects R_K y_K_print y_K_print ∈ TT := mm_ (List.mem_append_left _ (List.mem_of_getElem? (l := k2_sels lw_privs) (i := 10) (by decide +kernel))) rfl
set_option maxRecDepth 20000 in
theorem wc_K_fork : Cond.code y_K_fork b_K_fork 8 (none) ∈ TT := mm_ (List.mem_append_right _ (List.mem_of_getElem? (l := tables_1) (i := 298) rfl)) rfl
theorem wi_K_fork : Cond.instanceMethod y_K_fork ∈ TT := mm_ (List.mem_append_right _ (List.mem_of_getElem? (l := tables_1) (i := 297) (by decide +kernel))) rfl
theorem ws_K_fork : Cond.selects R_K y_K_fork y_K_fork ∈ TT := mm_ (List.mem_append_left _ (List.mem_of_getElem? (l := k2_sels lw_privs) (i := 11) (by decide +kernel))) rfl
set_option maxRecDepth 20000 in
theorem wc_K_sleep : Cond.code y_K_sleep b_K_sleep 3 (none) ∈ TT := mm_ (List.mem_append_right _ (List.mem_of_getElem? (l := tables_1) (i := 302) rfl)) rfl
theorem wi_K_sleep : Cond.instanceMethod y_K_sleep ∈ TT := mm_ (List.mem_append_right _ (List.mem_of_getElem? (l := tables_1) (i := 301) (by decide +kernel))) rfl
theorem ws_K_sleep : Cond.selects R_K y_K_sleep y_K_sleep ∈ TT := mm_ (List.mem_append_left _ (List.mem_of_getElem? (l := k2_sels lw_privs) (i := 12) (by decide +kernel))) rfl
set_option maxRecDepth 20000 in
theorem wc_K_awaitChild : Cond.code y_K_awaitChild b_K_awaitChild 7 (none) ∈ TT := mm_ (List.mem_append_right _ (List.mem_of_getElem? (l := tables_1) (i := 306) rfl)) rfl
theorem wi_K_awaitChild : Cond.instanceMethod y_K_awaitChild ∈ TT := mm_ (List.mem_append_right _ (List.mem_of_getElem? (l := tables_1) (i := 305) (by decide +kernel))) rfl
theorem ws_K_awaitChild : Cond.selects R_K y_K_awaitChild y_K_awaitChild ∈ TT := mm_ (List.mem_append_left _ (List.mem_of_getElem? (l := k2_sels lw_privs) (i := 13) (by decide +kernel))) rfl
set_option maxRecDepth 20000 in
theorem wc_K_process : Cond.code y_K_process b_K_process 5 (some .int) ∈ TT := mm_ (List.mem_append_right _ (List.mem_of_getElem? (l := tables_1) (i := 310) rfl)) rfl
theorem wi_K_process : Cond.instanceMethod y_K_process ∈ TT := mm_ (List.mem_append_right _ (List.mem_of_getElem? (l := tables_1) (i := 308) (by decide +kernel))) rfl
theorem ws_K_process : Cond.selects R_K y_K_process y_K_process ∈ TT := mm_ (List.mem_append_right _ (List.mem_of_getElem? (l := tables_1) (i := 309) (by decide +kernel))) rfl
set_option maxRecDepth 20000 in
theorem wc_T_tell : Cond.code y_T_tell b_T_tell 2 (some .int) ∈ TT := mm_ (List.mem_append_right _ (List.mem_of_getElem? (l := tables_1) (i := 314) rfl)) rfl
theorem wi_T_tell : Cond.instanceMethod y_T_tell ∈ TT := mm_ (List.mem_append_right _ (List.mem_of_getElem? (l := tables_1) (i := 312) (by decide +kernel))) rfl
theorem ws_T_tell : Cond.selects R_T y_T_tell y_T_tell ∈ TT := mm_ (List.mem_append_right _ (List.mem_of_getElem? (l := tables_1) (i := 313) (by decide +kernel))) rfl
set_option maxRecDepth 20000 in
theorem wc_K_page : Cond.code y_K_page b_K_page 5 (some .int) ∈ TT := mm_ (List.mem_append_right _ (List.mem_of_getElem? (l := tables_1) (i := 318) rfl)) rfl
theorem wi_K_page : Cond.instanceMethod y_K_page ∈ TT := mm_ (List.mem_append_right _ (List.mem_of_getElem? (l := tables_1) (i := 316) (by decide +kernel))) rfl
theorem ws_K_page : Cond.selects R_K y_K_page y_K_page ∈ TT := mm_ (List.mem_append_right _ (List.mem_of_getElem? (l := tables_1) (i := 317) (by decide +kernel))) rfl
set_option maxRecDepth 20000 in
theorem wc_E_tell : Cond.code y_E_tell b_E_tell 2 (some .int) ∈ TT := mm_ (List.mem_append_right _ (List.mem_of_getElem? (l := tables_1) (i := 322) rfl)) rfl
theorem wi_E_tell : Cond.instanceMethod y_E_tell ∈ TT := mm_ (List.mem_append_right _ (List.mem_of_getElem? (l := tables_1) (i := 320) (by decide +kernel))) rfl
theorem ws_E_tell : Cond.selects R_E y_E_tell y_E_tell ∈ TT := mm_ (List.mem_append_right _ (List.mem_of_getElem? (l := tables_1) (i := 321) (by decide +kernel))) rfl
set_option maxRecDepth 20000 in
theorem wc_K_printed : Cond.code y_K_printed b_K_printed 2 (some .int) ∈ TT := mm_ (List.mem_append_right _ (List.mem_of_getElem? (l := tables_1) (i := 326) rfl)) rfl
theorem wi_K_printed : Cond.instanceMethod y_K_printed ∈ TT := mm_ (List.mem_append_right _ (List.mem_of_getElem? (l := tables_1) (i := 324) (by decide +kernel))) rfl
theorem ws_K_printed : Cond.selects R_K y_K_printed y_K_printed ∈ TT := mm_ (List.mem_append_right _ (List.mem_of_getElem? (l := tables_1) (i := 325) (by decide +kernel))) rfl
set_option maxRecDepth 20000 in
theorem wc_K_count : Cond.code y_K_count b_K_count 2 (some .int) ∈ TT := mm_ (List.mem_append_right _ (List.mem_of_getElem? (l := tables_1) (i := 330) rfl)) rfl
theorem wi_K_count : Cond.instanceMethod y_K_count ∈ TT := mm_ (List.mem_append_right _ (List.mem_of_getElem? (l := tables_1) (i := 328) (by decide +kernel))) rfl
theorem ws_K_count : Cond.selects R_K y_K_count y_K_count ∈ TT := mm_ (List.mem_append_right _ (List.mem_of_getElem? (l := tables_1) (i := 329) (by decide +kernel))) rfl
set_option maxRecDepth 20000 in
theorem wc_K_presentTasks : Cond.code y_K_presentTasks b_K_presentTasks 3 (some .int) ∈ TT := mm_ (List.mem_append_right _ (List.mem_of_getElem? (l := tables_1) (i := 334) rfl)) rfl
theorem wi_K_presentTasks : Cond.instanceMethod y_K_presentTasks ∈ TT := mm_ (List.mem_append_right _ (List.mem_of_getElem? (l := tables_1) (i := 333) (by decide +kernel))) rfl
theorem ws_K_presentTasks : Cond.selects R_K y_K_presentTasks y_K_presentTasks ∈ TT := mm_ (List.mem_append_left _ (List.mem_of_getElem? (l := k2_sels lw_privs) (i := 14) (by decide +kernel))) rfl
set_option maxRecDepth 20000 in
theorem wc_M_taken : Cond.code y_M_taken b_M_taken 3 (some .int) ∈ TT := mm_ (List.mem_append_right _ (List.mem_of_getElem? (l := tables_1) (i := 337) rfl)) rfl
theorem wt_M_taken : Cond.static y_M_taken ∈ TT := mm_ (List.mem_append_right _ (List.mem_of_getElem? (l := tables_1) (i := 336) (by decide +kernel))) rfl
set_option maxRecDepth 20000 in
theorem wc_Q_init : Cond.code y_Q_init b_Q_init 2 (none) ∈ TT := mm_ (List.mem_append_right _ (List.mem_of_getElem? (l := tables_1) (i := 342) rfl)) rfl
theorem wi_Q_init : Cond.instanceMethod y_Q_init ∈ TT := mm_ (List.mem_append_right _ (List.mem_of_getElem? (l := tables_1) (i := 341) (by decide +kernel))) rfl
set_option maxRecDepth 20000 in
theorem wc_Q_spawn : Cond.code y_Q_spawn b_Q_spawn 2 (some .int) ∈ TT := mm_ (List.mem_append_right _ (List.mem_of_getElem? (l := tables_1) (i := 418) rfl)) rfl
theorem wi_Q_spawn : Cond.instanceMethod y_Q_spawn ∈ TT := mm_ (List.mem_append_right _ (List.mem_of_getElem? (l := tables_1) (i := 416) (by decide +kernel))) rfl
theorem ws_Q_spawn : Cond.selects R_Q y_Q_spawn y_Q_spawn ∈ TT := mm_ (List.mem_append_right _ (List.mem_of_getElem? (l := tables_1) (i := 417) (by decide +kernel))) rfl
set_option maxRecDepth 20000 in
theorem wc_Q_begin : Cond.code y_Q_begin b_Q_begin 4 (some .int) ∈ TT := mm_ (List.mem_append_right _ (List.mem_of_getElem? (l := tables_1) (i := 422) rfl)) rfl
theorem wi_Q_begin : Cond.instanceMethod y_Q_begin ∈ TT := mm_ (List.mem_append_right _ (List.mem_of_getElem? (l := tables_1) (i := 421) (by decide +kernel))) rfl
theorem ws_Q_begin : Cond.selects R_Q y_Q_begin y_Q_begin ∈ TT := mm_ (List.mem_append_left _ (List.mem_of_getElem? (l := k2_sels lw_privs) (i := 15) (by decide +kernel))) rfl
set_option maxRecDepth 20000 in
theorem wc_Q_poke : Cond.code y_Q_poke b_Q_poke 5 (some .int) ∈ TT := mm_ (List.mem_append_right _ (List.mem_of_getElem? (l := tables_1) (i := 426) rfl)) rfl
theorem wi_Q_poke : Cond.instanceMethod y_Q_poke ∈ TT := mm_ (List.mem_append_right _ (List.mem_of_getElem? (l := tables_1) (i := 424) (by decide +kernel))) rfl
theorem ws_Q_poke : Cond.selects R_Q y_Q_poke y_Q_poke ∈ TT := mm_ (List.mem_append_right _ (List.mem_of_getElem? (l := tables_1) (i := 425) (by decide +kernel))) rfl
set_option maxRecDepth 20000 in
theorem wc_Q_isAlive : Cond.code y_Q_isAlive b_Q_isAlive 2 (some .boolean) ∈ TT := mm_ (List.mem_append_right _ (List.mem_of_getElem? (l := tables_1) (i := 430) rfl)) rfl
theorem wi_Q_isAlive : Cond.instanceMethod y_Q_isAlive ∈ TT := mm_ (List.mem_append_right _ (List.mem_of_getElem? (l := tables_1) (i := 429) (by decide +kernel))) rfl
theorem ws_Q_isAlive : Cond.selects R_Q y_Q_isAlive y_Q_isAlive ∈ TT := mm_ (List.mem_append_left _ (List.mem_of_getElem? (l := k2_sels lw_privs) (i := 16) (by decide +kernel))) rfl
set_option maxRecDepth 20000 in
theorem wc_Q_isThere : Cond.code y_Q_isThere b_Q_isThere 2 (some .boolean) ∈ TT := mm_ (List.mem_append_right _ (List.mem_of_getElem? (l := tables_1) (i := 434) rfl)) rfl
theorem wi_Q_isThere : Cond.instanceMethod y_Q_isThere ∈ TT := mm_ (List.mem_append_right _ (List.mem_of_getElem? (l := tables_1) (i := 433) (by decide +kernel))) rfl
theorem ws_Q_isThere : Cond.selects R_Q y_Q_isThere y_Q_isThere ∈ TT := mm_ (List.mem_append_left _ (List.mem_of_getElem? (l := k2_sels lw_privs) (i := 17) (by decide +kernel))) rfl
set_option maxRecDepth 20000 in
theorem wc_Q_in : Cond.code y_Q_in b_Q_in 2 (some .boolean) ∈ TT := mm_ (List.mem_append_right _ (List.mem_of_getElem? (l := tables_1) (i := 437) rfl)) rfl
theorem wt_Q_in : Cond.static y_Q_in ∈ TT := mm_ (List.mem_append_right _ (List.mem_of_getElem? (l := tables_1) (i := 436) (by decide +kernel))) rfl
set_option maxRecDepth 20000 in
theorem wc_Q_reach : Cond.code y_Q_reach b_Q_reach 8 (some .int) ∈ TT := mm_ (List.mem_append_right _ (List.mem_of_getElem? (l := tables_1) (i := 441) rfl)) rfl
theorem wi_Q_reach : Cond.instanceMethod y_Q_reach ∈ TT := mm_ (List.mem_append_right _ (List.mem_of_getElem? (l := tables_1) (i := 440) (by decide +kernel))) rfl
theorem ws_Q_reach : Cond.selects R_Q y_Q_reach y_Q_reach ∈ TT := mm_ (List.mem_append_left _ (List.mem_of_getElem? (l := k2_sels lw_privs) (i := 18) (by decide +kernel))) rfl
set_option maxRecDepth 20000 in
theorem wc_Q_fresh : Cond.code y_Q_fresh b_Q_fresh 3 (some .int) ∈ TT := mm_ (List.mem_append_right _ (List.mem_of_getElem? (l := tables_1) (i := 445) rfl)) rfl
theorem wi_Q_fresh : Cond.instanceMethod y_Q_fresh ∈ TT := mm_ (List.mem_append_right _ (List.mem_of_getElem? (l := tables_1) (i := 444) (by decide +kernel))) rfl
theorem ws_Q_fresh : Cond.selects R_Q y_Q_fresh y_Q_fresh ∈ TT := mm_ (List.mem_append_left _ (List.mem_of_getElem? (l := k2_sels lw_privs) (i := 19) (by decide +kernel))) rfl
set_option maxRecDepth 20000 in
theorem wc_Q_bring : Cond.code y_Q_bring b_Q_bring 4 (none) ∈ TT := mm_ (List.mem_append_right _ (List.mem_of_getElem? (l := tables_1) (i := 449) rfl)) rfl
theorem wi_Q_bring : Cond.instanceMethod y_Q_bring ∈ TT := mm_ (List.mem_append_right _ (List.mem_of_getElem? (l := tables_1) (i := 448) (by decide +kernel))) rfl
theorem ws_Q_bring : Cond.selects R_Q y_Q_bring y_Q_bring ∈ TT := mm_ (List.mem_append_left _ (List.mem_of_getElem? (l := k2_sels lw_privs) (i := 20) (by decide +kernel))) rfl
set_option maxRecDepth 20000 in
theorem wc_Q_freeFrame : Cond.code y_Q_freeFrame b_Q_freeFrame 2 (some .int) ∈ TT := mm_ (List.mem_append_right _ (List.mem_of_getElem? (l := tables_1) (i := 453) rfl)) rfl
theorem wi_Q_freeFrame : Cond.instanceMethod y_Q_freeFrame ∈ TT := mm_ (List.mem_append_right _ (List.mem_of_getElem? (l := tables_1) (i := 452) (by decide +kernel))) rfl
theorem ws_Q_freeFrame : Cond.selects R_Q y_Q_freeFrame y_Q_freeFrame ∈ TT := mm_ (List.mem_append_left _ (List.mem_of_getElem? (l := k2_sels lw_privs) (i := 21) (by decide +kernel))) rfl
set_option maxRecDepth 20000 in
theorem wc_Q_inFrame : Cond.code y_Q_inFrame b_Q_inFrame 3 (some .int) ∈ TT := mm_ (List.mem_append_right _ (List.mem_of_getElem? (l := tables_1) (i := 457) rfl)) rfl
theorem wi_Q_inFrame : Cond.instanceMethod y_Q_inFrame ∈ TT := mm_ (List.mem_append_right _ (List.mem_of_getElem? (l := tables_1) (i := 456) (by decide +kernel))) rfl
theorem ws_Q_inFrame : Cond.selects R_Q y_Q_inFrame y_Q_inFrame ∈ TT := mm_ (List.mem_append_left _ (List.mem_of_getElem? (l := k2_sels lw_privs) (i := 22) (by decide +kernel))) rfl
set_option maxRecDepth 20000 in
theorem wc_Q_goesOut : Cond.code y_Q_goesOut b_Q_goesOut 3 (none) ∈ TT := mm_ (List.mem_append_right _ (List.mem_of_getElem? (l := tables_1) (i := 461) rfl)) rfl
theorem wi_Q_goesOut : Cond.instanceMethod y_Q_goesOut ∈ TT := mm_ (List.mem_append_right _ (List.mem_of_getElem? (l := tables_1) (i := 460) (by decide +kernel))) rfl
theorem ws_Q_goesOut : Cond.selects R_Q y_Q_goesOut y_Q_goesOut ∈ TT := mm_ (List.mem_append_left _ (List.mem_of_getElem? (l := k2_sels lw_privs) (i := 23) (by decide +kernel))) rfl
set_option maxRecDepth 20000 in
theorem wc_Q_isSlot : Cond.code y_Q_isSlot b_Q_isSlot 3 (some .boolean) ∈ TT := mm_ (List.mem_append_right _ (List.mem_of_getElem? (l := tables_1) (i := 465) rfl)) rfl
theorem wi_Q_isSlot : Cond.instanceMethod y_Q_isSlot ∈ TT := mm_ (List.mem_append_right _ (List.mem_of_getElem? (l := tables_1) (i := 464) (by decide +kernel))) rfl
theorem ws_Q_isSlot : Cond.selects R_Q y_Q_isSlot y_Q_isSlot ∈ TT := mm_ (List.mem_append_left _ (List.mem_of_getElem? (l := k2_sels lw_privs) (i := 24) (by decide +kernel))) rfl
set_option maxRecDepth 20000 in
theorem wc_Q_sharers : Cond.code y_Q_sharers b_Q_sharers 4 (some .int) ∈ TT := mm_ (List.mem_append_right _ (List.mem_of_getElem? (l := tables_1) (i := 469) rfl)) rfl
theorem wi_Q_sharers : Cond.instanceMethod y_Q_sharers ∈ TT := mm_ (List.mem_append_right _ (List.mem_of_getElem? (l := tables_1) (i := 468) (by decide +kernel))) rfl
theorem ws_Q_sharers : Cond.selects R_Q y_Q_sharers y_Q_sharers ∈ TT := mm_ (List.mem_append_left _ (List.mem_of_getElem? (l := k2_sels lw_privs) (i := 25) (by decide +kernel))) rfl
set_option maxRecDepth 20000 in
theorem wc_Q_peek : Cond.code y_Q_peek b_Q_peek 4 (some .int) ∈ TT := mm_ (List.mem_append_right _ (List.mem_of_getElem? (l := tables_1) (i := 473) rfl)) rfl
theorem wi_Q_peek : Cond.instanceMethod y_Q_peek ∈ TT := mm_ (List.mem_append_right _ (List.mem_of_getElem? (l := tables_1) (i := 471) (by decide +kernel))) rfl
theorem ws_Q_peek : Cond.selects R_Q y_Q_peek y_Q_peek ∈ TT := mm_ (List.mem_append_right _ (List.mem_of_getElem? (l := tables_1) (i := 472) (by decide +kernel))) rfl
set_option maxRecDepth 20000 in
theorem wc_Q_kill : Cond.code y_Q_kill b_Q_kill 2 (some .boolean) ∈ TT := mm_ (List.mem_append_right _ (List.mem_of_getElem? (l := tables_1) (i := 477) rfl)) rfl
theorem wi_Q_kill : Cond.instanceMethod y_Q_kill ∈ TT := mm_ (List.mem_append_right _ (List.mem_of_getElem? (l := tables_1) (i := 475) (by decide +kernel))) rfl
theorem ws_Q_kill : Cond.selects R_Q y_Q_kill y_Q_kill ∈ TT := mm_ (List.mem_append_right _ (List.mem_of_getElem? (l := tables_1) (i := 476) (by decide +kernel))) rfl
set_option maxRecDepth 20000 in
theorem wc_Q_ends : Cond.code y_Q_ends b_Q_ends 4 (none) ∈ TT := mm_ (List.mem_append_right _ (List.mem_of_getElem? (l := tables_1) (i := 481) rfl)) rfl
theorem wi_Q_ends : Cond.instanceMethod y_Q_ends ∈ TT := mm_ (List.mem_append_right _ (List.mem_of_getElem? (l := tables_1) (i := 480) (by decide +kernel))) rfl
theorem ws_Q_ends : Cond.selects R_Q y_Q_ends y_Q_ends ∈ TT := mm_ (List.mem_append_left _ (List.mem_of_getElem? (l := k2_sels lw_privs) (i := 26) (by decide +kernel))) rfl
set_option maxRecDepth 20000 in
theorem wc_Q_let : Cond.code y_Q_let b_Q_let 3 (none) ∈ TT := mm_ (List.mem_append_right _ (List.mem_of_getElem? (l := tables_1) (i := 485) rfl)) rfl
theorem wi_Q_let : Cond.instanceMethod y_Q_let ∈ TT := mm_ (List.mem_append_right _ (List.mem_of_getElem? (l := tables_1) (i := 484) (by decide +kernel))) rfl
theorem ws_Q_let : Cond.selects R_Q y_Q_let y_Q_let ∈ TT := mm_ (List.mem_append_left _ (List.mem_of_getElem? (l := k2_sels lw_privs) (i := 27) (by decide +kernel))) rfl
set_option maxRecDepth 20000 in
theorem wc_Q_run : Cond.code y_Q_run b_Q_run 4 (some .int) ∈ TT := mm_ (List.mem_append_right _ (List.mem_of_getElem? (l := tables_1) (i := 489) rfl)) rfl
theorem wi_Q_run : Cond.instanceMethod y_Q_run ∈ TT := mm_ (List.mem_append_right _ (List.mem_of_getElem? (l := tables_1) (i := 487) (by decide +kernel))) rfl
theorem ws_Q_run : Cond.selects R_Q y_Q_run y_Q_run ∈ TT := mm_ (List.mem_append_right _ (List.mem_of_getElem? (l := tables_1) (i := 488) (by decide +kernel))) rfl
set_option maxRecDepth 20000 in
theorem wc_Q_tick : Cond.code y_Q_tick b_Q_tick 3 (some .boolean) ∈ TT := mm_ (List.mem_append_right _ (List.mem_of_getElem? (l := tables_1) (i := 493) rfl)) rfl
theorem wi_Q_tick : Cond.instanceMethod y_Q_tick ∈ TT := mm_ (List.mem_append_right _ (List.mem_of_getElem? (l := tables_1) (i := 492) (by decide +kernel))) rfl
theorem ws_Q_tick : Cond.selects R_Q y_Q_tick y_Q_tick ∈ TT := mm_ (List.mem_append_left _ (List.mem_of_getElem? (l := k2_sels lw_privs) (i := 28) (by decide +kernel))) rfl
set_option maxRecDepth 20000 in
theorem wc_Q_does : Cond.code y_Q_does b_Q_does 9 (some .boolean) ∈ TT := mm_ (List.mem_append_right _ (List.mem_of_getElem? (l := tables_1) (i := 497) rfl)) rfl
theorem wi_Q_does : Cond.instanceMethod y_Q_does ∈ TT := mm_ (List.mem_append_right _ (List.mem_of_getElem? (l := tables_1) (i := 496) (by decide +kernel))) rfl
theorem ws_Q_does : Cond.selects R_Q y_Q_does y_Q_does ∈ TT := mm_ (List.mem_append_left _ (List.mem_of_getElem? (l := k2_sels lw_privs) (i := 29) (by decide +kernel))) rfl
set_option maxRecDepth 20000 in
theorem wc_Q_calls : Cond.code y_Q_calls b_Q_calls 5 (some .boolean) ∈ TT := mm_ (List.mem_append_right _ (List.mem_of_getElem? (l := tables_1) (i := 501) rfl)) rfl
theorem wi_Q_calls : Cond.instanceMethod y_Q_calls ∈ TT := mm_ (List.mem_append_right _ (List.mem_of_getElem? (l := tables_1) (i := 500) (by decide +kernel))) rfl
theorem ws_Q_calls : Cond.selects R_Q y_Q_calls y_Q_calls ∈ TT := mm_ (List.mem_append_left _ (List.mem_of_getElem? (l := k2_sels lw_privs) (i := 30) (by decide +kernel))) rfl
set_option maxRecDepth 20000 in
theorem wc_Q_waits : Cond.code y_Q_waits b_Q_waits 5 (some .boolean) ∈ TT := mm_ (List.mem_append_right _ (List.mem_of_getElem? (l := tables_1) (i := 505) rfl)) rfl
theorem wi_Q_waits : Cond.instanceMethod y_Q_waits ∈ TT := mm_ (List.mem_append_right _ (List.mem_of_getElem? (l := tables_1) (i := 504) (by decide +kernel))) rfl
theorem ws_Q_waits : Cond.selects R_Q y_Q_waits y_Q_waits ∈ TT := mm_ (List.mem_append_left _ (List.mem_of_getElem? (l := k2_sels lw_privs) (i := 31) (by decide +kernel))) rfl
set_option maxRecDepth 20000 in
theorem wc_Q_fork : Cond.code y_Q_fork b_Q_fork 5 (some .int) ∈ TT := mm_ (List.mem_append_right _ (List.mem_of_getElem? (l := tables_1) (i := 509) rfl)) rfl
theorem wi_Q_fork : Cond.instanceMethod y_Q_fork ∈ TT := mm_ (List.mem_append_right _ (List.mem_of_getElem? (l := tables_1) (i := 508) (by decide +kernel))) rfl
theorem ws_Q_fork : Cond.selects R_Q y_Q_fork y_Q_fork ∈ TT := mm_ (List.mem_append_left _ (List.mem_of_getElem? (l := k2_sels lw_privs) (i := 32) (by decide +kernel))) rfl
set_option maxRecDepth 20000 in
theorem wc_Q_process : Cond.code y_Q_process b_Q_process 3 (some .int) ∈ TT := mm_ (List.mem_append_right _ (List.mem_of_getElem? (l := tables_1) (i := 513) rfl)) rfl
theorem wi_Q_process : Cond.instanceMethod y_Q_process ∈ TT := mm_ (List.mem_append_right _ (List.mem_of_getElem? (l := tables_1) (i := 511) (by decide +kernel))) rfl
theorem ws_Q_process : Cond.selects R_Q y_Q_process y_Q_process ∈ TT := mm_ (List.mem_append_right _ (List.mem_of_getElem? (l := tables_1) (i := 512) (by decide +kernel))) rfl
set_option maxRecDepth 20000 in
theorem wc_Q_page : Cond.code y_Q_page b_Q_page 5 (some .int) ∈ TT := mm_ (List.mem_append_right _ (List.mem_of_getElem? (l := tables_1) (i := 517) rfl)) rfl
theorem wi_Q_page : Cond.instanceMethod y_Q_page ∈ TT := mm_ (List.mem_append_right _ (List.mem_of_getElem? (l := tables_1) (i := 515) (by decide +kernel))) rfl
theorem ws_Q_page : Cond.selects R_Q y_Q_page y_Q_page ∈ TT := mm_ (List.mem_append_right _ (List.mem_of_getElem? (l := tables_1) (i := 516) (by decide +kernel))) rfl
set_option maxRecDepth 20000 in
theorem wc_Q_printed : Cond.code y_Q_printed b_Q_printed 2 (some .int) ∈ TT := mm_ (List.mem_append_right _ (List.mem_of_getElem? (l := tables_1) (i := 521) rfl)) rfl
theorem wi_Q_printed : Cond.instanceMethod y_Q_printed ∈ TT := mm_ (List.mem_append_right _ (List.mem_of_getElem? (l := tables_1) (i := 519) (by decide +kernel))) rfl
theorem ws_Q_printed : Cond.selects R_Q y_Q_printed y_Q_printed ∈ TT := mm_ (List.mem_append_right _ (List.mem_of_getElem? (l := tables_1) (i := 520) (by decide +kernel))) rfl
set_option maxRecDepth 20000 in
theorem wc_Q_count : Cond.code y_Q_count b_Q_count 4 (some .int) ∈ TT := mm_ (List.mem_append_right _ (List.mem_of_getElem? (l := tables_1) (i := 525) rfl)) rfl
theorem wi_Q_count : Cond.instanceMethod y_Q_count ∈ TT := mm_ (List.mem_append_right _ (List.mem_of_getElem? (l := tables_1) (i := 523) (by decide +kernel))) rfl
theorem ws_Q_count : Cond.selects R_Q y_Q_count y_Q_count ∈ TT := mm_ (List.mem_append_right _ (List.mem_of_getElem? (l := tables_1) (i := 524) (by decide +kernel))) rfl
theorem wn_K : Cond.initialized R_K ∈ TT := mm_ (List.mem_append_right _ (List.mem_of_getElem? (l := tables_1) (i := 1) (by decide +kernel))) rfl
theorem wn_M : Cond.initialized R_M ∈ TT := mm_ (List.mem_append_right _ (List.mem_of_getElem? (l := tables_1) (i := 2) (by decide +kernel))) rfl
theorem wn_T : Cond.initialized R_T ∈ TT := mm_ (List.mem_append_right _ (List.mem_of_getElem? (l := tables_1) (i := 4) (by decide +kernel))) rfl
theorem wn_E : Cond.initialized R_E ∈ TT := mm_ (List.mem_append_right _ (List.mem_of_getElem? (l := tables_1) (i := 3) (by decide +kernel))) rfl
theorem wn_Q : Cond.initialized R_Q ∈ TT := mm_ (List.mem_append_right _ (List.mem_of_getElem? (l := tables_1) (i := 5) (by decide +kernel))) rfl
theorem wn_J : Cond.initialized R_J ∈ TT := mm_ (List.mem_append_right _ (List.mem_of_getElem? (l := tables_1) (i := 6) (by decide +kernel))) rfl
theorem lm_K_17 : Cond.methodLink R_K 17 y_M_init ∈ TT := mm_ (List.mem_append_right _ (List.mem_of_getElem? (l := tables_1) (i := 20) (by decide +kernel))) rfl
theorem lm_K_31 : Cond.methodLink R_K 31 y_K_leastAbsent ∈ TT := mm_ (List.mem_append_right _ (List.mem_of_getElem? (l := tables_1) (i := 170) (by decide +kernel))) rfl
theorem wv_K_31 : ∀ w ∈ ([.methodLink R_K 31 y_K_leastAbsent, .instanceMethod y_K_leastAbsent, .selects R_K y_K_leastAbsent y_K_leastAbsent, .initialized R_K, .code y_K_leastAbsent b_K_leastAbsent 2 (some .int)] : List Cond), w ∈ TT := List.forall_mem_cons.mpr ⟨lm_K_31, List.forall_mem_cons.mpr ⟨wi_K_leastAbsent, List.forall_mem_cons.mpr ⟨ws_K_leastAbsent, List.forall_mem_cons.mpr ⟨wn_K, List.forall_mem_cons.mpr ⟨wc_K_leastAbsent, fun _ h => absurd h List.not_mem_nil⟩⟩⟩⟩⟩
theorem lm_K_35 : Cond.methodLink R_K 35 y_T_begin ∈ TT := mm_ (List.mem_append_right _ (List.mem_of_getElem? (l := tables_1) (i := 174) (by decide +kernel))) rfl
theorem wv_K_35 : ∀ w ∈ ([.methodLink R_K 35 y_T_begin, .instanceMethod y_T_begin, .selects R_T y_T_begin y_T_begin, .initialized R_T, .code y_T_begin b_T_begin 2 (none)] : List Cond), w ∈ TT := List.forall_mem_cons.mpr ⟨lm_K_35, List.forall_mem_cons.mpr ⟨wi_T_begin, List.forall_mem_cons.mpr ⟨ws_T_begin, List.forall_mem_cons.mpr ⟨wn_T, List.forall_mem_cons.mpr ⟨wc_T_begin, fun _ h => absurd h List.not_mem_nil⟩⟩⟩⟩⟩
theorem lm_K_39 : Cond.methodLink R_K 39 y_K_lives ∈ TT := mm_ (List.mem_append_right _ (List.mem_of_getElem? (l := tables_1) (i := 185) (by decide +kernel))) rfl
theorem wv_K_39 : ∀ w ∈ ([.methodLink R_K 39 y_K_lives, .instanceMethod y_K_lives, .selects R_K y_K_lives y_K_lives, .initialized R_K, .code y_K_lives b_K_lives 2 (some .boolean)] : List Cond), w ∈ TT := List.forall_mem_cons.mpr ⟨lm_K_39, List.forall_mem_cons.mpr ⟨wi_K_lives, List.forall_mem_cons.mpr ⟨ws_K_lives, List.forall_mem_cons.mpr ⟨wn_K, List.forall_mem_cons.mpr ⟨wc_K_lives, fun _ h => absurd h List.not_mem_nil⟩⟩⟩⟩⟩
theorem lm_K_43 : Cond.methodLink R_K 43 y_K_isAddress ∈ TT := mm_ (List.mem_append_right _ (List.mem_of_getElem? (l := tables_1) (i := 196) (by decide +kernel))) rfl
theorem wv_K_43 : ∀ w ∈ ([.methodLink R_K 43 y_K_isAddress, .static y_K_isAddress, .initialized (y_K_isAddress).cls, .code y_K_isAddress b_K_isAddress 1 (some .boolean)] : List Cond), w ∈ TT := List.forall_mem_cons.mpr ⟨lm_K_43, List.forall_mem_cons.mpr ⟨wt_K_isAddress, List.forall_mem_cons.mpr ⟨wn_K, List.forall_mem_cons.mpr ⟨wc_K_isAddress, fun _ h => absurd h List.not_mem_nil⟩⟩⟩⟩
theorem lm_K_49 : Cond.methodLink R_K 49 y_M_write ∈ TT := mm_ (List.mem_append_right _ (List.mem_of_getElem? (l := tables_1) (i := 199) (by decide +kernel))) rfl
theorem wv_K_49 : ∀ w ∈ ([.methodLink R_K 49 y_M_write, .instanceMethod y_M_write, .selects R_M y_M_write y_M_write, .initialized R_M, .code y_M_write b_M_write 4 (none)] : List Cond), w ∈ TT := List.forall_mem_cons.mpr ⟨lm_K_49, List.forall_mem_cons.mpr ⟨wi_M_write, List.forall_mem_cons.mpr ⟨ws_M_write, List.forall_mem_cons.mpr ⟨wn_M, List.forall_mem_cons.mpr ⟨wc_M_write, fun _ h => absurd h List.not_mem_nil⟩⟩⟩⟩⟩
theorem lm_K_62 : Cond.methodLink R_K 62 y_K_end ∈ TT := mm_ (List.mem_append_right _ (List.mem_of_getElem? (l := tables_1) (i := 243) (by decide +kernel))) rfl
theorem wv_K_62 : ∀ w ∈ ([.methodLink R_K 62 y_K_end, .instanceMethod y_K_end, .selects R_K y_K_end y_K_end, .initialized R_K, .code y_K_end b_K_end 5 (none)] : List Cond), w ∈ TT := List.forall_mem_cons.mpr ⟨lm_K_62, List.forall_mem_cons.mpr ⟨wi_K_end, List.forall_mem_cons.mpr ⟨ws_K_end, List.forall_mem_cons.mpr ⟨wn_K, List.forall_mem_cons.mpr ⟨wc_K_end, fun _ h => absurd h List.not_mem_nil⟩⟩⟩⟩⟩
theorem lm_K_69 : Cond.methodLink R_K 69 y_K_wakeSleepers ∈ TT := mm_ (List.mem_append_right _ (List.mem_of_getElem? (l := tables_1) (i := 267) (by decide +kernel))) rfl
theorem wv_K_69 : ∀ w ∈ ([.methodLink R_K 69 y_K_wakeSleepers, .instanceMethod y_K_wakeSleepers, .selects R_K y_K_wakeSleepers y_K_wakeSleepers, .initialized R_K, .code y_K_wakeSleepers b_K_wakeSleepers 3 (none)] : List Cond), w ∈ TT := List.forall_mem_cons.mpr ⟨lm_K_69, List.forall_mem_cons.mpr ⟨wi_K_wakeSleepers, List.forall_mem_cons.mpr ⟨ws_K_wakeSleepers, List.forall_mem_cons.mpr ⟨wn_K, List.forall_mem_cons.mpr ⟨wc_K_wakeSleepers, fun _ h => absurd h List.not_mem_nil⟩⟩⟩⟩⟩
theorem lm_K_72 : Cond.methodLink R_K 72 y_K_giveTurn ∈ TT := mm_ (List.mem_append_right _ (List.mem_of_getElem? (l := tables_1) (i := 271) (by decide +kernel))) rfl
theorem wv_K_72 : ∀ w ∈ ([.methodLink R_K 72 y_K_giveTurn, .instanceMethod y_K_giveTurn, .selects R_K y_K_giveTurn y_K_giveTurn, .initialized R_K, .code y_K_giveTurn b_K_giveTurn 4 (some .boolean)] : List Cond), w ∈ TT := List.forall_mem_cons.mpr ⟨lm_K_72, List.forall_mem_cons.mpr ⟨wi_K_giveTurn, List.forall_mem_cons.mpr ⟨ws_K_giveTurn, List.forall_mem_cons.mpr ⟨wn_K, List.forall_mem_cons.mpr ⟨wc_K_giveTurn, fun _ h => absurd h List.not_mem_nil⟩⟩⟩⟩⟩
theorem lm_K_76 : Cond.methodLink R_K 76 y_K_doInstruction ∈ TT := mm_ (List.mem_append_right _ (List.mem_of_getElem? (l := tables_1) (i := 275) (by decide +kernel))) rfl
theorem wv_K_76 : ∀ w ∈ ([.methodLink R_K 76 y_K_doInstruction, .instanceMethod y_K_doInstruction, .selects R_K y_K_doInstruction y_K_doInstruction, .initialized R_K, .code y_K_doInstruction b_K_doInstruction 6 (none)] : List Cond), w ∈ TT := List.forall_mem_cons.mpr ⟨lm_K_76, List.forall_mem_cons.mpr ⟨wi_K_doInstruction, List.forall_mem_cons.mpr ⟨ws_K_doInstruction, List.forall_mem_cons.mpr ⟨wn_K, List.forall_mem_cons.mpr ⟨wc_K_doInstruction, fun _ h => absurd h List.not_mem_nil⟩⟩⟩⟩⟩
theorem lm_K_82 : Cond.methodLink R_K 82 y_K_isTask ∈ TT := mm_ (List.mem_append_right _ (List.mem_of_getElem? (l := tables_1) (i := 193) (by decide +kernel))) rfl
theorem wv_K_82 : ∀ w ∈ ([.methodLink R_K 82 y_K_isTask, .static y_K_isTask, .initialized (y_K_isTask).cls, .code y_K_isTask b_K_isTask 1 (some .boolean)] : List Cond), w ∈ TT := List.forall_mem_cons.mpr ⟨lm_K_82, List.forall_mem_cons.mpr ⟨wt_K_isTask, List.forall_mem_cons.mpr ⟨wn_K, List.forall_mem_cons.mpr ⟨wc_K_isTask, fun _ h => absurd h List.not_mem_nil⟩⟩⟩⟩
theorem lm_K_91 : Cond.methodLink R_K 91 y_T_tell ∈ TT := mm_ (List.mem_append_right _ (List.mem_of_getElem? (l := tables_1) (i := 311) (by decide +kernel))) rfl
theorem wv_K_91 : ∀ w ∈ ([.methodLink R_K 91 y_T_tell, .instanceMethod y_T_tell, .selects R_T y_T_tell y_T_tell, .initialized R_T, .code y_T_tell b_T_tell 2 (some .int)] : List Cond), w ∈ TT := List.forall_mem_cons.mpr ⟨lm_K_91, List.forall_mem_cons.mpr ⟨wi_T_tell, List.forall_mem_cons.mpr ⟨ws_T_tell, List.forall_mem_cons.mpr ⟨wn_T, List.forall_mem_cons.mpr ⟨wc_T_tell, fun _ h => absurd h List.not_mem_nil⟩⟩⟩⟩⟩
theorem lm_K_95 : Cond.methodLink R_K 95 y_K_isThere ∈ TT := mm_ (List.mem_append_right _ (List.mem_of_getElem? (l := tables_1) (i := 189) (by decide +kernel))) rfl
theorem wv_K_95 : ∀ w ∈ ([.methodLink R_K 95 y_K_isThere, .instanceMethod y_K_isThere, .selects R_K y_K_isThere y_K_isThere, .initialized R_K, .code y_K_isThere b_K_isThere 2 (some .boolean)] : List Cond), w ∈ TT := List.forall_mem_cons.mpr ⟨lm_K_95, List.forall_mem_cons.mpr ⟨wi_K_isThere, List.forall_mem_cons.mpr ⟨ws_K_isThere, List.forall_mem_cons.mpr ⟨wn_K, List.forall_mem_cons.mpr ⟨wc_K_isThere, fun _ h => absurd h List.not_mem_nil⟩⟩⟩⟩⟩
theorem lm_K_98 : Cond.methodLink R_K 98 y_E_tell ∈ TT := mm_ (List.mem_append_right _ (List.mem_of_getElem? (l := tables_1) (i := 319) (by decide +kernel))) rfl
theorem wv_K_98 : ∀ w ∈ ([.methodLink R_K 98 y_E_tell, .instanceMethod y_E_tell, .selects R_E y_E_tell y_E_tell, .initialized R_E, .code y_E_tell b_E_tell 2 (some .int)] : List Cond), w ∈ TT := List.forall_mem_cons.mpr ⟨lm_K_98, List.forall_mem_cons.mpr ⟨wi_E_tell, List.forall_mem_cons.mpr ⟨ws_E_tell, List.forall_mem_cons.mpr ⟨wn_E, List.forall_mem_cons.mpr ⟨wc_E_tell, fun _ h => absurd h List.not_mem_nil⟩⟩⟩⟩⟩
theorem lm_K_102 : Cond.methodLink R_K 102 y_K_presentTasks ∈ TT := mm_ (List.mem_append_right _ (List.mem_of_getElem? (l := tables_1) (i := 331) (by decide +kernel))) rfl
theorem wv_K_102 : ∀ w ∈ ([.methodLink R_K 102 y_K_presentTasks, .instanceMethod y_K_presentTasks, .selects R_K y_K_presentTasks y_K_presentTasks, .initialized R_K, .code y_K_presentTasks b_K_presentTasks 3 (some .int)] : List Cond), w ∈ TT := List.forall_mem_cons.mpr ⟨lm_K_102, List.forall_mem_cons.mpr ⟨wi_K_presentTasks, List.forall_mem_cons.mpr ⟨ws_K_presentTasks, List.forall_mem_cons.mpr ⟨wn_K, List.forall_mem_cons.mpr ⟨wc_K_presentTasks, fun _ h => absurd h List.not_mem_nil⟩⟩⟩⟩⟩
theorem lm_K_111 : Cond.methodLink R_K 111 y_M_taken ∈ TT := mm_ (List.mem_append_right _ (List.mem_of_getElem? (l := tables_1) (i := 335) (by decide +kernel))) rfl
theorem wv_K_111 : ∀ w ∈ ([.methodLink R_K 111 y_M_taken, .static y_M_taken, .initialized (y_M_taken).cls, .code y_M_taken b_M_taken 3 (some .int)] : List Cond), w ∈ TT := List.forall_mem_cons.mpr ⟨lm_K_111, List.forall_mem_cons.mpr ⟨wt_M_taken, List.forall_mem_cons.mpr ⟨wn_M, List.forall_mem_cons.mpr ⟨wc_M_taken, fun _ h => absurd h List.not_mem_nil⟩⟩⟩⟩
theorem lm_K_146 : Cond.methodLink R_K 146 y_M_fetch ∈ TT := mm_ (List.mem_append_right _ (List.mem_of_getElem? (l := tables_1) (i := 279) (by decide +kernel))) rfl
theorem wv_K_146 : ∀ w ∈ ([.methodLink R_K 146 y_M_fetch, .instanceMethod y_M_fetch, .selects R_M y_M_fetch y_M_fetch, .initialized R_M, .code y_M_fetch b_M_fetch 3 (some .int)] : List Cond), w ∈ TT := List.forall_mem_cons.mpr ⟨lm_K_146, List.forall_mem_cons.mpr ⟨wi_M_fetch, List.forall_mem_cons.mpr ⟨ws_M_fetch, List.forall_mem_cons.mpr ⟨wn_M, List.forall_mem_cons.mpr ⟨wc_M_fetch, fun _ h => absurd h List.not_mem_nil⟩⟩⟩⟩⟩
theorem lm_K_150 : Cond.methodLink R_K 150 y_K_obey ∈ TT := mm_ (List.mem_append_right _ (List.mem_of_getElem? (l := tables_1) (i := 283) (by decide +kernel))) rfl
theorem wv_K_150 : ∀ w ∈ ([.methodLink R_K 150 y_K_obey, .instanceMethod y_K_obey, .selects R_K y_K_obey y_K_obey, .initialized R_K, .code y_K_obey b_K_obey 8 (some .boolean)] : List Cond), w ∈ TT := List.forall_mem_cons.mpr ⟨lm_K_150, List.forall_mem_cons.mpr ⟨wi_K_obey, List.forall_mem_cons.mpr ⟨ws_K_obey, List.forall_mem_cons.mpr ⟨wn_K, List.forall_mem_cons.mpr ⟨wc_K_obey, fun _ h => absurd h List.not_mem_nil⟩⟩⟩⟩⟩
theorem lm_K_154 : Cond.methodLink R_K 154 y_K_callSystem ∈ TT := mm_ (List.mem_append_right _ (List.mem_of_getElem? (l := tables_1) (i := 287) (by decide +kernel))) rfl
theorem wv_K_154 : ∀ w ∈ ([.methodLink R_K 154 y_K_callSystem, .instanceMethod y_K_callSystem, .selects R_K y_K_callSystem y_K_callSystem, .initialized R_K, .code y_K_callSystem b_K_callSystem 5 (some .boolean)] : List Cond), w ∈ TT := List.forall_mem_cons.mpr ⟨lm_K_154, List.forall_mem_cons.mpr ⟨wi_K_callSystem, List.forall_mem_cons.mpr ⟨ws_K_callSystem, List.forall_mem_cons.mpr ⟨wn_K, List.forall_mem_cons.mpr ⟨wc_K_callSystem, fun _ h => absurd h List.not_mem_nil⟩⟩⟩⟩⟩
theorem lm_K_158 : Cond.methodLink R_K 158 y_K_print ∈ TT := mm_ (List.mem_append_right _ (List.mem_of_getElem? (l := tables_1) (i := 291) (by decide +kernel))) rfl
theorem wv_K_158 : ∀ w ∈ ([.methodLink R_K 158 y_K_print, .instanceMethod y_K_print, .selects R_K y_K_print y_K_print, .initialized R_K, .code y_K_print b_K_print 2 (none)] : List Cond), w ∈ TT := List.forall_mem_cons.mpr ⟨lm_K_158, List.forall_mem_cons.mpr ⟨wi_K_print, List.forall_mem_cons.mpr ⟨ws_K_print, List.forall_mem_cons.mpr ⟨wn_K, List.forall_mem_cons.mpr ⟨wc_K_print, fun _ h => absurd h List.not_mem_nil⟩⟩⟩⟩⟩
theorem lm_K_161 : Cond.methodLink R_K 161 y_K_fork ∈ TT := mm_ (List.mem_append_right _ (List.mem_of_getElem? (l := tables_1) (i := 295) (by decide +kernel))) rfl
theorem wv_K_161 : ∀ w ∈ ([.methodLink R_K 161 y_K_fork, .instanceMethod y_K_fork, .selects R_K y_K_fork y_K_fork, .initialized R_K, .code y_K_fork b_K_fork 8 (none)] : List Cond), w ∈ TT := List.forall_mem_cons.mpr ⟨lm_K_161, List.forall_mem_cons.mpr ⟨wi_K_fork, List.forall_mem_cons.mpr ⟨ws_K_fork, List.forall_mem_cons.mpr ⟨wn_K, List.forall_mem_cons.mpr ⟨wc_K_fork, fun _ h => absurd h List.not_mem_nil⟩⟩⟩⟩⟩
theorem lm_K_164 : Cond.methodLink R_K 164 y_K_sleep ∈ TT := mm_ (List.mem_append_right _ (List.mem_of_getElem? (l := tables_1) (i := 299) (by decide +kernel))) rfl
theorem wv_K_164 : ∀ w ∈ ([.methodLink R_K 164 y_K_sleep, .instanceMethod y_K_sleep, .selects R_K y_K_sleep y_K_sleep, .initialized R_K, .code y_K_sleep b_K_sleep 3 (none)] : List Cond), w ∈ TT := List.forall_mem_cons.mpr ⟨lm_K_164, List.forall_mem_cons.mpr ⟨wi_K_sleep, List.forall_mem_cons.mpr ⟨ws_K_sleep, List.forall_mem_cons.mpr ⟨wn_K, List.forall_mem_cons.mpr ⟨wc_K_sleep, fun _ h => absurd h List.not_mem_nil⟩⟩⟩⟩⟩
theorem lm_K_168 : Cond.methodLink R_K 168 y_K_awaitChild ∈ TT := mm_ (List.mem_append_right _ (List.mem_of_getElem? (l := tables_1) (i := 303) (by decide +kernel))) rfl
theorem wv_K_168 : ∀ w ∈ ([.methodLink R_K 168 y_K_awaitChild, .instanceMethod y_K_awaitChild, .selects R_K y_K_awaitChild y_K_awaitChild, .initialized R_K, .code y_K_awaitChild b_K_awaitChild 7 (none)] : List Cond), w ∈ TT := List.forall_mem_cons.mpr ⟨lm_K_168, List.forall_mem_cons.mpr ⟨wi_K_awaitChild, List.forall_mem_cons.mpr ⟨ws_K_awaitChild, List.forall_mem_cons.mpr ⟨wn_K, List.forall_mem_cons.mpr ⟨wc_K_awaitChild, fun _ h => absurd h List.not_mem_nil⟩⟩⟩⟩⟩
theorem lm_K_180 : Cond.methodLink R_K 180 y_T_leave ∈ TT := mm_ (List.mem_append_right _ (List.mem_of_getElem? (l := tables_1) (i := 259) (by decide +kernel))) rfl
theorem wv_K_180 : ∀ w ∈ ([.methodLink R_K 180 y_T_leave, .instanceMethod y_T_leave, .selects R_T y_T_leave y_T_leave, .initialized R_T, .code y_T_leave b_T_leave 1 (none)] : List Cond), w ∈ TT := List.forall_mem_cons.mpr ⟨lm_K_180, List.forall_mem_cons.mpr ⟨wi_T_leave, List.forall_mem_cons.mpr ⟨ws_T_leave, List.forall_mem_cons.mpr ⟨wn_T, List.forall_mem_cons.mpr ⟨wc_T_leave, fun _ h => absurd h List.not_mem_nil⟩⟩⟩⟩⟩
theorem lm_K_183 : Cond.methodLink R_K 183 y_M_releaseAll ∈ TT := mm_ (List.mem_append_right _ (List.mem_of_getElem? (l := tables_1) (i := 247) (by decide +kernel))) rfl
theorem wv_K_183 : ∀ w ∈ ([.methodLink R_K 183 y_M_releaseAll, .instanceMethod y_M_releaseAll, .selects R_M y_M_releaseAll y_M_releaseAll, .initialized R_M, .code y_M_releaseAll b_M_releaseAll 4 (none)] : List Cond), w ∈ TT := List.forall_mem_cons.mpr ⟨lm_K_183, List.forall_mem_cons.mpr ⟨wi_M_releaseAll, List.forall_mem_cons.mpr ⟨ws_M_releaseAll, List.forall_mem_cons.mpr ⟨wn_M, List.forall_mem_cons.mpr ⟨wc_M_releaseAll, fun _ h => absurd h List.not_mem_nil⟩⟩⟩⟩⟩
theorem lm_K_187 : Cond.methodLink R_K 187 y_K_orphanChildren ∈ TT := mm_ (List.mem_append_right _ (List.mem_of_getElem? (l := tables_1) (i := 255) (by decide +kernel))) rfl
theorem wv_K_187 : ∀ w ∈ ([.methodLink R_K 187 y_K_orphanChildren, .instanceMethod y_K_orphanChildren, .selects R_K y_K_orphanChildren y_K_orphanChildren, .initialized R_K, .code y_K_orphanChildren b_K_orphanChildren 4 (none)] : List Cond), w ∈ TT := List.forall_mem_cons.mpr ⟨lm_K_187, List.forall_mem_cons.mpr ⟨wi_K_orphanChildren, List.forall_mem_cons.mpr ⟨ws_K_orphanChildren, List.forall_mem_cons.mpr ⟨wn_K, List.forall_mem_cons.mpr ⟨wc_K_orphanChildren, fun _ h => absurd h List.not_mem_nil⟩⟩⟩⟩⟩
theorem lm_M_24 : Cond.methodLink R_M 24 y_M_reach ∈ TT := mm_ (List.mem_append_right _ (List.mem_of_getElem? (l := tables_1) (i := 203) (by decide +kernel))) rfl
theorem wv_M_24 : ∀ w ∈ ([.methodLink R_M 24 y_M_reach, .instanceMethod y_M_reach, .selects R_M y_M_reach y_M_reach, .initialized R_M, .code y_M_reach b_M_reach 5 (some (.object "SheetKernel$Sheet"))] : List Cond), w ∈ TT := List.forall_mem_cons.mpr ⟨lm_M_24, List.forall_mem_cons.mpr ⟨wi_M_reach, List.forall_mem_cons.mpr ⟨ws_M_reach, List.forall_mem_cons.mpr ⟨wn_M, List.forall_mem_cons.mpr ⟨wc_M_reach, fun _ h => absurd h List.not_mem_nil⟩⟩⟩⟩⟩
theorem lm_M_37 : Cond.methodLink R_M 37 y_M_newSheet ∈ TT := mm_ (List.mem_append_right _ (List.mem_of_getElem? (l := tables_1) (i := 207) (by decide +kernel))) rfl
theorem wv_M_37 : ∀ w ∈ ([.methodLink R_M 37 y_M_newSheet, .instanceMethod y_M_newSheet, .selects R_M y_M_newSheet y_M_newSheet, .initialized R_M, .code y_M_newSheet b_M_newSheet 3 (some (.object "SheetKernel$Sheet"))] : List Cond), w ∈ TT := List.forall_mem_cons.mpr ⟨lm_M_37, List.forall_mem_cons.mpr ⟨wi_M_newSheet, List.forall_mem_cons.mpr ⟨ws_M_newSheet, List.forall_mem_cons.mpr ⟨wn_M, List.forall_mem_cons.mpr ⟨wc_M_newSheet, fun _ h => absurd h List.not_mem_nil⟩⟩⟩⟩⟩
theorem lm_M_55 : Cond.methodLink R_M 55 y_M_layInFrame ∈ TT := mm_ (List.mem_append_right _ (List.mem_of_getElem? (l := tables_1) (i := 212) (by decide +kernel))) rfl
theorem wv_M_55 : ∀ w ∈ ([.methodLink R_M 55 y_M_layInFrame, .instanceMethod y_M_layInFrame, .selects R_M y_M_layInFrame y_M_layInFrame, .initialized R_M, .code y_M_layInFrame b_M_layInFrame 3 (none)] : List Cond), w ∈ TT := List.forall_mem_cons.mpr ⟨lm_M_55, List.forall_mem_cons.mpr ⟨wi_M_layInFrame, List.forall_mem_cons.mpr ⟨ws_M_layInFrame, List.forall_mem_cons.mpr ⟨wn_M, List.forall_mem_cons.mpr ⟨wc_M_layInFrame, fun _ h => absurd h List.not_mem_nil⟩⟩⟩⟩⟩
theorem lm_M_62 : Cond.methodLink R_M 62 y_M_copyOf ∈ TT := mm_ (List.mem_append_right _ (List.mem_of_getElem? (l := tables_1) (i := 228) (by decide +kernel))) rfl
theorem wv_M_62 : ∀ w ∈ ([.methodLink R_M 62 y_M_copyOf, .instanceMethod y_M_copyOf, .selects R_M y_M_copyOf y_M_copyOf, .initialized R_M, .code y_M_copyOf b_M_copyOf 3 (some (.object "SheetKernel$Sheet"))] : List Cond), w ∈ TT := List.forall_mem_cons.mpr ⟨lm_M_62, List.forall_mem_cons.mpr ⟨wi_M_copyOf, List.forall_mem_cons.mpr ⟨ws_M_copyOf, List.forall_mem_cons.mpr ⟨wn_M, List.forall_mem_cons.mpr ⟨wc_M_copyOf, fun _ h => absurd h List.not_mem_nil⟩⟩⟩⟩⟩
theorem lm_M_73 : Cond.methodLink R_M 73 y_J_fill ∈ TT := mm_ (List.mem_append_right _ (List.mem_of_getElem? (l := tables_1) (i := 211) (by decide +kernel))) rfl
theorem wv_M_73 : ∀ w ∈ ([.methodLink R_M 73 y_J_fill, .static y_J_fill, .initialized (y_J_fill).cls, .code y_J_fill b_J_fill 4 (none)] : List Cond), w ∈ TT := List.forall_mem_cons.mpr ⟨lm_M_73, List.forall_mem_cons.mpr ⟨wt_J_fill, List.forall_mem_cons.mpr ⟨wn_J, List.forall_mem_cons.mpr ⟨wc_J_fill, fun _ h => absurd h List.not_mem_nil⟩⟩⟩⟩
theorem lm_M_88 : Cond.methodLink R_M 88 y_M_chooseFrame ∈ TT := mm_ (List.mem_append_right _ (List.mem_of_getElem? (l := tables_1) (i := 216) (by decide +kernel))) rfl
theorem wv_M_88 : ∀ w ∈ ([.methodLink R_M 88 y_M_chooseFrame, .instanceMethod y_M_chooseFrame, .selects R_M y_M_chooseFrame y_M_chooseFrame, .initialized R_M, .code y_M_chooseFrame b_M_chooseFrame 2 (some .int)] : List Cond), w ∈ TT := List.forall_mem_cons.mpr ⟨lm_M_88, List.forall_mem_cons.mpr ⟨wi_M_chooseFrame, List.forall_mem_cons.mpr ⟨ws_M_chooseFrame, List.forall_mem_cons.mpr ⟨wn_M, List.forall_mem_cons.mpr ⟨wc_M_chooseFrame, fun _ h => absurd h List.not_mem_nil⟩⟩⟩⟩⟩
theorem lm_M_92 : Cond.methodLink R_M 92 y_M_goOut ∈ TT := mm_ (List.mem_append_right _ (List.mem_of_getElem? (l := tables_1) (i := 220) (by decide +kernel))) rfl
theorem wv_M_92 : ∀ w ∈ ([.methodLink R_M 92 y_M_goOut, .instanceMethod y_M_goOut, .selects R_M y_M_goOut y_M_goOut, .initialized R_M, .code y_M_goOut b_M_goOut 2 (none)] : List Cond), w ∈ TT := List.forall_mem_cons.mpr ⟨lm_M_92, List.forall_mem_cons.mpr ⟨wi_M_goOut, List.forall_mem_cons.mpr ⟨ws_M_goOut, List.forall_mem_cons.mpr ⟨wn_M, List.forall_mem_cons.mpr ⟨wc_M_goOut, fun _ h => absurd h List.not_mem_nil⟩⟩⟩⟩⟩
theorem lm_M_98 : Cond.methodLink R_M 98 y_M_leastFreeSlot ∈ TT := mm_ (List.mem_append_right _ (List.mem_of_getElem? (l := tables_1) (i := 224) (by decide +kernel))) rfl
theorem wv_M_98 : ∀ w ∈ ([.methodLink R_M 98 y_M_leastFreeSlot, .instanceMethod y_M_leastFreeSlot, .selects R_M y_M_leastFreeSlot y_M_leastFreeSlot, .initialized R_M, .code y_M_leastFreeSlot b_M_leastFreeSlot 2 (some .int)] : List Cond), w ∈ TT := List.forall_mem_cons.mpr ⟨lm_M_98, List.forall_mem_cons.mpr ⟨wi_M_leastFreeSlot, List.forall_mem_cons.mpr ⟨ws_M_leastFreeSlot, List.forall_mem_cons.mpr ⟨wn_M, List.forall_mem_cons.mpr ⟨wc_M_leastFreeSlot, fun _ h => absurd h List.not_mem_nil⟩⟩⟩⟩⟩
theorem lm_M_104 : Cond.methodLink R_M 104 y_M_release ∈ TT := mm_ (List.mem_append_right _ (List.mem_of_getElem? (l := tables_1) (i := 251) (by decide +kernel))) rfl
theorem wv_M_104 : ∀ w ∈ ([.methodLink R_M 104 y_M_release, .instanceMethod y_M_release, .selects R_M y_M_release y_M_release, .initialized R_M, .code y_M_release b_M_release 2 (none)] : List Cond), w ∈ TT := List.forall_mem_cons.mpr ⟨lm_M_104, List.forall_mem_cons.mpr ⟨wi_M_release, List.forall_mem_cons.mpr ⟨ws_M_release, List.forall_mem_cons.mpr ⟨wn_M, List.forall_mem_cons.mpr ⟨wc_M_release, fun _ h => absurd h List.not_mem_nil⟩⟩⟩⟩⟩
theorem lm_T_28 : Cond.methodLink R_T 28 y_J_fill ∈ TT := mm_ (List.mem_append_right _ (List.mem_of_getElem? (l := tables_1) (i := 178) (by decide +kernel))) rfl
theorem wv_T_28 : ∀ w ∈ ([.methodLink R_T 28 y_J_fill, .static y_J_fill, .initialized (y_J_fill).cls, .code y_J_fill b_J_fill 4 (none)] : List Cond), w ∈ TT := List.forall_mem_cons.mpr ⟨lm_T_28, List.forall_mem_cons.mpr ⟨wt_J_fill, List.forall_mem_cons.mpr ⟨wn_J, List.forall_mem_cons.mpr ⟨wc_J_fill, fun _ h => absurd h List.not_mem_nil⟩⟩⟩⟩
theorem lm_Q_66 : Cond.methodLink R_Q 66 y_Q_sharers ∈ TT := mm_ (List.mem_append_right _ (List.mem_of_getElem? (l := tables_1) (i := 466) (by decide +kernel))) rfl
theorem wv_Q_66 : ∀ w ∈ ([.methodLink R_Q 66 y_Q_sharers, .instanceMethod y_Q_sharers, .selects R_Q y_Q_sharers y_Q_sharers, .initialized R_Q, .code y_Q_sharers b_Q_sharers 4 (some .int)] : List Cond), w ∈ TT := List.forall_mem_cons.mpr ⟨lm_Q_66, List.forall_mem_cons.mpr ⟨wi_Q_sharers, List.forall_mem_cons.mpr ⟨ws_Q_sharers, List.forall_mem_cons.mpr ⟨wn_Q, List.forall_mem_cons.mpr ⟨wc_Q_sharers, fun _ h => absurd h List.not_mem_nil⟩⟩⟩⟩⟩
theorem lm_Q_70 : Cond.methodLink R_Q 70 y_Q_isSlot ∈ TT := mm_ (List.mem_append_right _ (List.mem_of_getElem? (l := tables_1) (i := 462) (by decide +kernel))) rfl
theorem wv_Q_70 : ∀ w ∈ ([.methodLink R_Q 70 y_Q_isSlot, .instanceMethod y_Q_isSlot, .selects R_Q y_Q_isSlot y_Q_isSlot, .initialized R_Q, .code y_Q_isSlot b_Q_isSlot 3 (some .boolean)] : List Cond), w ∈ TT := List.forall_mem_cons.mpr ⟨lm_Q_70, List.forall_mem_cons.mpr ⟨wi_Q_isSlot, List.forall_mem_cons.mpr ⟨ws_Q_isSlot, List.forall_mem_cons.mpr ⟨wn_Q, List.forall_mem_cons.mpr ⟨wc_Q_isSlot, fun _ h => absurd h List.not_mem_nil⟩⟩⟩⟩⟩
theorem lm_Q_74 : Cond.methodLink R_Q 74 y_Q_inFrame ∈ TT := mm_ (List.mem_append_right _ (List.mem_of_getElem? (l := tables_1) (i := 454) (by decide +kernel))) rfl
theorem wv_Q_74 : ∀ w ∈ ([.methodLink R_Q 74 y_Q_inFrame, .instanceMethod y_Q_inFrame, .selects R_Q y_Q_inFrame y_Q_inFrame, .initialized R_Q, .code y_Q_inFrame b_Q_inFrame 3 (some .int)] : List Cond), w ∈ TT := List.forall_mem_cons.mpr ⟨lm_Q_74, List.forall_mem_cons.mpr ⟨wi_Q_inFrame, List.forall_mem_cons.mpr ⟨ws_Q_inFrame, List.forall_mem_cons.mpr ⟨wn_Q, List.forall_mem_cons.mpr ⟨wc_Q_inFrame, fun _ h => absurd h List.not_mem_nil⟩⟩⟩⟩⟩
theorem lm_Q_80 : Cond.methodLink R_Q 80 y_Q_goesOut ∈ TT := mm_ (List.mem_append_right _ (List.mem_of_getElem? (l := tables_1) (i := 458) (by decide +kernel))) rfl
theorem wv_Q_80 : ∀ w ∈ ([.methodLink R_Q 80 y_Q_goesOut, .instanceMethod y_Q_goesOut, .selects R_Q y_Q_goesOut y_Q_goesOut, .initialized R_Q, .code y_Q_goesOut b_Q_goesOut 3 (none)] : List Cond), w ∈ TT := List.forall_mem_cons.mpr ⟨lm_Q_80, List.forall_mem_cons.mpr ⟨wi_Q_goesOut, List.forall_mem_cons.mpr ⟨ws_Q_goesOut, List.forall_mem_cons.mpr ⟨wn_Q, List.forall_mem_cons.mpr ⟨wc_Q_goesOut, fun _ h => absurd h List.not_mem_nil⟩⟩⟩⟩⟩
theorem lm_Q_84 : Cond.methodLink R_Q 84 y_Q_freeFrame ∈ TT := mm_ (List.mem_append_right _ (List.mem_of_getElem? (l := tables_1) (i := 450) (by decide +kernel))) rfl
theorem wv_Q_84 : ∀ w ∈ ([.methodLink R_Q 84 y_Q_freeFrame, .instanceMethod y_Q_freeFrame, .selects R_Q y_Q_freeFrame y_Q_freeFrame, .initialized R_Q, .code y_Q_freeFrame b_Q_freeFrame 2 (some .int)] : List Cond), w ∈ TT := List.forall_mem_cons.mpr ⟨lm_Q_84, List.forall_mem_cons.mpr ⟨wi_Q_freeFrame, List.forall_mem_cons.mpr ⟨ws_Q_freeFrame, List.forall_mem_cons.mpr ⟨wn_Q, List.forall_mem_cons.mpr ⟨wc_Q_freeFrame, fun _ h => absurd h List.not_mem_nil⟩⟩⟩⟩⟩
theorem lm_Q_88 : Cond.methodLink R_Q 88 y_Q_fresh ∈ TT := mm_ (List.mem_append_right _ (List.mem_of_getElem? (l := tables_1) (i := 442) (by decide +kernel))) rfl
theorem wv_Q_88 : ∀ w ∈ ([.methodLink R_Q 88 y_Q_fresh, .instanceMethod y_Q_fresh, .selects R_Q y_Q_fresh y_Q_fresh, .initialized R_Q, .code y_Q_fresh b_Q_fresh 3 (some .int)] : List Cond), w ∈ TT := List.forall_mem_cons.mpr ⟨lm_Q_88, List.forall_mem_cons.mpr ⟨wi_Q_fresh, List.forall_mem_cons.mpr ⟨ws_Q_fresh, List.forall_mem_cons.mpr ⟨wn_Q, List.forall_mem_cons.mpr ⟨wc_Q_fresh, fun _ h => absurd h List.not_mem_nil⟩⟩⟩⟩⟩
theorem lm_Q_91 : Cond.methodLink R_Q 91 y_Q_bring ∈ TT := mm_ (List.mem_append_right _ (List.mem_of_getElem? (l := tables_1) (i := 446) (by decide +kernel))) rfl
theorem wv_Q_91 : ∀ w ∈ ([.methodLink R_Q 91 y_Q_bring, .instanceMethod y_Q_bring, .selects R_Q y_Q_bring y_Q_bring, .initialized R_Q, .code y_Q_bring b_Q_bring 4 (none)] : List Cond), w ∈ TT := List.forall_mem_cons.mpr ⟨lm_Q_91, List.forall_mem_cons.mpr ⟨wi_Q_bring, List.forall_mem_cons.mpr ⟨ws_Q_bring, List.forall_mem_cons.mpr ⟨wn_Q, List.forall_mem_cons.mpr ⟨wc_Q_bring, fun _ h => absurd h List.not_mem_nil⟩⟩⟩⟩⟩
theorem lm_Q_95 : Cond.methodLink R_Q 95 y_Q_in ∈ TT := mm_ (List.mem_append_right _ (List.mem_of_getElem? (l := tables_1) (i := 435) (by decide +kernel))) rfl
theorem wv_Q_95 : ∀ w ∈ ([.methodLink R_Q 95 y_Q_in, .static y_Q_in, .initialized (y_Q_in).cls, .code y_Q_in b_Q_in 2 (some .boolean)] : List Cond), w ∈ TT := List.forall_mem_cons.mpr ⟨lm_Q_95, List.forall_mem_cons.mpr ⟨wt_Q_in, List.forall_mem_cons.mpr ⟨wn_Q, List.forall_mem_cons.mpr ⟨wc_Q_in, fun _ h => absurd h List.not_mem_nil⟩⟩⟩⟩
theorem lm_Q_99 : Cond.methodLink R_Q 99 y_Q_isThere ∈ TT := mm_ (List.mem_append_right _ (List.mem_of_getElem? (l := tables_1) (i := 431) (by decide +kernel))) rfl
theorem wv_Q_99 : ∀ w ∈ ([.methodLink R_Q 99 y_Q_isThere, .instanceMethod y_Q_isThere, .selects R_Q y_Q_isThere y_Q_isThere, .initialized R_Q, .code y_Q_isThere b_Q_isThere 2 (some .boolean)] : List Cond), w ∈ TT := List.forall_mem_cons.mpr ⟨lm_Q_99, List.forall_mem_cons.mpr ⟨wi_Q_isThere, List.forall_mem_cons.mpr ⟨ws_Q_isThere, List.forall_mem_cons.mpr ⟨wn_Q, List.forall_mem_cons.mpr ⟨wc_Q_isThere, fun _ h => absurd h List.not_mem_nil⟩⟩⟩⟩⟩
theorem lm_Q_102 : Cond.methodLink R_Q 102 y_Q_begin ∈ TT := mm_ (List.mem_append_right _ (List.mem_of_getElem? (l := tables_1) (i := 419) (by decide +kernel))) rfl
theorem wv_Q_102 : ∀ w ∈ ([.methodLink R_Q 102 y_Q_begin, .instanceMethod y_Q_begin, .selects R_Q y_Q_begin y_Q_begin, .initialized R_Q, .code y_Q_begin b_Q_begin 4 (some .int)] : List Cond), w ∈ TT := List.forall_mem_cons.mpr ⟨lm_Q_102, List.forall_mem_cons.mpr ⟨wi_Q_begin, List.forall_mem_cons.mpr ⟨ws_Q_begin, List.forall_mem_cons.mpr ⟨wn_Q, List.forall_mem_cons.mpr ⟨wc_Q_begin, fun _ h => absurd h List.not_mem_nil⟩⟩⟩⟩⟩
theorem lm_Q_105 : Cond.methodLink R_Q 105 y_Q_isAlive ∈ TT := mm_ (List.mem_append_right _ (List.mem_of_getElem? (l := tables_1) (i := 427) (by decide +kernel))) rfl
theorem wv_Q_105 : ∀ w ∈ ([.methodLink R_Q 105 y_Q_isAlive, .instanceMethod y_Q_isAlive, .selects R_Q y_Q_isAlive y_Q_isAlive, .initialized R_Q, .code y_Q_isAlive b_Q_isAlive 2 (some .boolean)] : List Cond), w ∈ TT := List.forall_mem_cons.mpr ⟨lm_Q_105, List.forall_mem_cons.mpr ⟨wi_Q_isAlive, List.forall_mem_cons.mpr ⟨ws_Q_isAlive, List.forall_mem_cons.mpr ⟨wn_Q, List.forall_mem_cons.mpr ⟨wc_Q_isAlive, fun _ h => absurd h List.not_mem_nil⟩⟩⟩⟩⟩
theorem lm_Q_108 : Cond.methodLink R_Q 108 y_Q_reach ∈ TT := mm_ (List.mem_append_right _ (List.mem_of_getElem? (l := tables_1) (i := 438) (by decide +kernel))) rfl
theorem wv_Q_108 : ∀ w ∈ ([.methodLink R_Q 108 y_Q_reach, .instanceMethod y_Q_reach, .selects R_Q y_Q_reach y_Q_reach, .initialized R_Q, .code y_Q_reach b_Q_reach 8 (some .int)] : List Cond), w ∈ TT := List.forall_mem_cons.mpr ⟨lm_Q_108, List.forall_mem_cons.mpr ⟨wi_Q_reach, List.forall_mem_cons.mpr ⟨ws_Q_reach, List.forall_mem_cons.mpr ⟨wn_Q, List.forall_mem_cons.mpr ⟨wc_Q_reach, fun _ h => absurd h List.not_mem_nil⟩⟩⟩⟩⟩
theorem lm_Q_112 : Cond.methodLink R_Q 112 y_Q_let ∈ TT := mm_ (List.mem_append_right _ (List.mem_of_getElem? (l := tables_1) (i := 482) (by decide +kernel))) rfl
theorem wv_Q_112 : ∀ w ∈ ([.methodLink R_Q 112 y_Q_let, .instanceMethod y_Q_let, .selects R_Q y_Q_let y_Q_let, .initialized R_Q, .code y_Q_let b_Q_let 3 (none)] : List Cond), w ∈ TT := List.forall_mem_cons.mpr ⟨lm_Q_112, List.forall_mem_cons.mpr ⟨wi_Q_let, List.forall_mem_cons.mpr ⟨ws_Q_let, List.forall_mem_cons.mpr ⟨wn_Q, List.forall_mem_cons.mpr ⟨wc_Q_let, fun _ h => absurd h List.not_mem_nil⟩⟩⟩⟩⟩
theorem lm_Q_115 : Cond.methodLink R_Q 115 y_Q_ends ∈ TT := mm_ (List.mem_append_right _ (List.mem_of_getElem? (l := tables_1) (i := 478) (by decide +kernel))) rfl
theorem wv_Q_115 : ∀ w ∈ ([.methodLink R_Q 115 y_Q_ends, .instanceMethod y_Q_ends, .selects R_Q y_Q_ends y_Q_ends, .initialized R_Q, .code y_Q_ends b_Q_ends 4 (none)] : List Cond), w ∈ TT := List.forall_mem_cons.mpr ⟨lm_Q_115, List.forall_mem_cons.mpr ⟨wi_Q_ends, List.forall_mem_cons.mpr ⟨ws_Q_ends, List.forall_mem_cons.mpr ⟨wn_Q, List.forall_mem_cons.mpr ⟨wc_Q_ends, fun _ h => absurd h List.not_mem_nil⟩⟩⟩⟩⟩
theorem lm_Q_119 : Cond.methodLink R_Q 119 y_Q_tick ∈ TT := mm_ (List.mem_append_right _ (List.mem_of_getElem? (l := tables_1) (i := 490) (by decide +kernel))) rfl
theorem wv_Q_119 : ∀ w ∈ ([.methodLink R_Q 119 y_Q_tick, .instanceMethod y_Q_tick, .selects R_Q y_Q_tick y_Q_tick, .initialized R_Q, .code y_Q_tick b_Q_tick 3 (some .boolean)] : List Cond), w ∈ TT := List.forall_mem_cons.mpr ⟨lm_Q_119, List.forall_mem_cons.mpr ⟨wi_Q_tick, List.forall_mem_cons.mpr ⟨ws_Q_tick, List.forall_mem_cons.mpr ⟨wn_Q, List.forall_mem_cons.mpr ⟨wc_Q_tick, fun _ h => absurd h List.not_mem_nil⟩⟩⟩⟩⟩
theorem lm_Q_133 : Cond.methodLink R_Q 133 y_Q_does ∈ TT := mm_ (List.mem_append_right _ (List.mem_of_getElem? (l := tables_1) (i := 494) (by decide +kernel))) rfl
theorem wv_Q_133 : ∀ w ∈ ([.methodLink R_Q 133 y_Q_does, .instanceMethod y_Q_does, .selects R_Q y_Q_does y_Q_does, .initialized R_Q, .code y_Q_does b_Q_does 9 (some .boolean)] : List Cond), w ∈ TT := List.forall_mem_cons.mpr ⟨lm_Q_133, List.forall_mem_cons.mpr ⟨wi_Q_does, List.forall_mem_cons.mpr ⟨ws_Q_does, List.forall_mem_cons.mpr ⟨wn_Q, List.forall_mem_cons.mpr ⟨wc_Q_does, fun _ h => absurd h List.not_mem_nil⟩⟩⟩⟩⟩
theorem lm_Q_136 : Cond.methodLink R_Q 136 y_Q_calls ∈ TT := mm_ (List.mem_append_right _ (List.mem_of_getElem? (l := tables_1) (i := 498) (by decide +kernel))) rfl
theorem wv_Q_136 : ∀ w ∈ ([.methodLink R_Q 136 y_Q_calls, .instanceMethod y_Q_calls, .selects R_Q y_Q_calls y_Q_calls, .initialized R_Q, .code y_Q_calls b_Q_calls 5 (some .boolean)] : List Cond), w ∈ TT := List.forall_mem_cons.mpr ⟨lm_Q_136, List.forall_mem_cons.mpr ⟨wi_Q_calls, List.forall_mem_cons.mpr ⟨ws_Q_calls, List.forall_mem_cons.mpr ⟨wn_Q, List.forall_mem_cons.mpr ⟨wc_Q_calls, fun _ h => absurd h List.not_mem_nil⟩⟩⟩⟩⟩
theorem lm_Q_140 : Cond.methodLink R_Q 140 y_Q_waits ∈ TT := mm_ (List.mem_append_right _ (List.mem_of_getElem? (l := tables_1) (i := 502) (by decide +kernel))) rfl
theorem wv_Q_140 : ∀ w ∈ ([.methodLink R_Q 140 y_Q_waits, .instanceMethod y_Q_waits, .selects R_Q y_Q_waits y_Q_waits, .initialized R_Q, .code y_Q_waits b_Q_waits 5 (some .boolean)] : List Cond), w ∈ TT := List.forall_mem_cons.mpr ⟨lm_Q_140, List.forall_mem_cons.mpr ⟨wi_Q_waits, List.forall_mem_cons.mpr ⟨ws_Q_waits, List.forall_mem_cons.mpr ⟨wn_Q, List.forall_mem_cons.mpr ⟨wc_Q_waits, fun _ h => absurd h List.not_mem_nil⟩⟩⟩⟩⟩
theorem lm_Q_146 : Cond.methodLink R_Q 146 y_Q_fork ∈ TT := mm_ (List.mem_append_right _ (List.mem_of_getElem? (l := tables_1) (i := 506) (by decide +kernel))) rfl
theorem wv_Q_146 : ∀ w ∈ ([.methodLink R_Q 146 y_Q_fork, .instanceMethod y_Q_fork, .selects R_Q y_Q_fork y_Q_fork, .initialized R_Q, .code y_Q_fork b_Q_fork 5 (some .int)] : List Cond), w ∈ TT := List.forall_mem_cons.mpr ⟨lm_Q_146, List.forall_mem_cons.mpr ⟨wi_Q_fork, List.forall_mem_cons.mpr ⟨ws_Q_fork, List.forall_mem_cons.mpr ⟨wn_Q, List.forall_mem_cons.mpr ⟨wc_Q_fork, fun _ h => absurd h List.not_mem_nil⟩⟩⟩⟩⟩
theorem w_copy : Cond.methodLink R_M 79 arraycopyName ∈ TT ∧ Cond.native arraycopyName ∈ TT ∧ Cond.static arraycopyName ∈ TT ∧ Cond.initialized "java/lang/System" ∈ TT := ⟨mm_ (List.mem_append_right _ (List.mem_of_getElem? (l := tables_1) (i := 232) (by decide +kernel))) rfl, mm_ (List.mem_append_right _ (List.mem_of_getElem? (l := tables_1) (i := 234) (by decide +kernel))) rfl, mm_ (List.mem_append_right _ (List.mem_of_getElem? (l := tables_1) (i := 233) (by decide +kernel))) rfl, mm_ (List.mem_append_right _ (List.mem_of_getElem? (l := tables_1) (i := 7) (by decide +kernel))) rfl⟩
