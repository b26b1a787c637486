set_option maxRecDepth 20000 in
theorem gl_X1_init : GoodIn lw_tbl wsX1_init := goodIn_p _ [17, 20, 25, 28, 31] (by decide +kernel) (by decide +kernel)
set_option maxRecDepth 20000 in
theorem gl_X1_put : GoodIn lw_tbl (wsV RL 21 RX1 yX1_put wsX1_put) := goodIn_p _ [100] (by decide +kernel) (by decide +kernel)
set_option maxRecDepth 20000 in
theorem gl_X1_keep : GoodIn lw_tbl (wsV RL 26 RX1 yX1_keep wsX1_keep) := goodIn_p _ [104, 108, 112, 116, 120, 124, 128, 132, 136, 140, 144] (by decide +kernel) (by decide +kernel)
set_option maxRecDepth 20000 in
theorem gl_X1_delete : GoodIn lw_tbl (wsV RL 30 RX1 yX1_delete wsX1_delete) := goodIn_p _ [148, 116, 152, 140, 124, 128, 132, 136] (by decide +kernel) (by decide +kernel)
set_option maxRecDepth 20000 in
theorem gl_X1_begin : GoodIn lw_tbl (wsV RL 34 RX1 yX1_begin wsX1_begin) := goodIn_p _ [156] (by decide +kernel) (by decide +kernel)
set_option maxRecDepth 20000 in
theorem gl_X1_stop : GoodIn lw_tbl (wsV RL 39 RX1 yX1_stop wsX1_stop) := goodIn_p _ [160] (by decide +kernel) (by decide +kernel)
set_option maxRecDepth 20000 in
theorem gl_X1_next : GoodIn lw_tbl (wsV RL 44 RX1 yX1_next wsX1_next) := goodIn_p _ [164, 168, 116, 152, 140, 172, 132, 136, 177, 181] (by decide +kernel) (by decide +kernel)
set_option maxRecDepth 20000 in
theorem gl_X1_out : GoodIn lw_tbl (wsV RL 48 RX1 yX1_out wsX1_out) := goodIn_p _ [185] (by decide +kernel) (by decide +kernel)
set_option maxRecDepth 20000 in
theorem gl_X1_count : GoodIn lw_tbl (wsV RL 52 RX1 yX1_count wsX1_count) := goodIn_p _ [189, 116, 120, 108] (by decide +kernel) (by decide +kernel)
set_option maxRecDepth 20000 in
theorem gl_X1_about : GoodIn lw_tbl (wsV RL 56 RX1 yX1_about wsX1_about) := goodIn_p _ [193, 197, 152, 140, 132, 136] (by decide +kernel) (by decide +kernel)
set_option maxRecDepth 20000 in
theorem gl_X1_byteAt : GoodIn lw_tbl (wsV RL 61 RX1 yX1_byteAt wsX1_byteAt) := goodIn_p _ [201, 197, 132, 136, 140, 181] (by decide +kernel) (by decide +kernel)
set_option maxRecDepth 20000 in
theorem gl_M_init : GoodIn lw_tbl wsM_init := goodIn_p _ [210, 20] (by decide +kernel) (by decide +kernel)
set_option maxRecDepth 20000 in
theorem gl_M_put : GoodIn lw_tbl (wsV RL 25 RM yM_put wsM_put) := goodIn_p _ [270] (by decide +kernel) (by decide +kernel)
set_option maxRecDepth 20000 in
theorem gl_M_keep : GoodIn lw_tbl (wsV RL 29 RM yM_keep wsM_keep) := goodIn_p _ [274, 278] (by decide +kernel) (by decide +kernel)
set_option maxRecDepth 20000 in
theorem gl_M_delete : GoodIn lw_tbl (wsV RL 33 RM yM_delete wsM_delete) := goodIn_p _ [282, 278] (by decide +kernel) (by decide +kernel)
set_option maxRecDepth 20000 in
theorem gl_M_begin : GoodIn lw_tbl (wsV RL 38 RM yM_begin wsM_begin) := goodIn_p _ [286] (by decide +kernel) (by decide +kernel)
set_option maxRecDepth 20000 in
theorem gl_M_stop : GoodIn lw_tbl (wsV RL 43 RM yM_stop wsM_stop) := goodIn_p _ [290] (by decide +kernel) (by decide +kernel)
set_option maxRecDepth 20000 in
theorem gl_M_next : GoodIn lw_tbl (wsV RL 47 RM yM_next wsM_next) := goodIn_p _ [294, 298] (by decide +kernel) (by decide +kernel)
set_option maxRecDepth 20000 in
theorem gl_M_out : GoodIn lw_tbl (wsV RL 51 RM yM_out wsM_out) := goodIn_p _ [302] (by decide +kernel) (by decide +kernel)
set_option maxRecDepth 20000 in
theorem gl_M_count : GoodIn lw_tbl (wsV RL 55 RM yM_count wsM_count) := goodIn_p _ [306] (by decide +kernel) (by decide +kernel)
set_option maxRecDepth 20000 in
theorem gl_M_about : GoodIn lw_tbl (wsV RL 60 RM yM_about wsM_about) := goodIn_p _ [310] (by decide +kernel) (by decide +kernel)
set_option maxRecDepth 20000 in
theorem gl_M_byteAt : GoodIn lw_tbl (wsV RL 64 RM yM_byteAt wsM_byteAt) := goodIn_p _ [314, 298] (by decide +kernel) (by decide +kernel)
set_option maxRecDepth 20000 in
theorem gl_L_cell : GoodIn lw_tbl (wsS RL 9 yL_cell wsL_cell) := goodIn_p _ [205] (by decide +kernel) (by decide +kernel)
theorem il_X0 : ∀ w ∈ u_ws RX0 TX0 8, w ∈ lw_tbl := by decide +kernel
theorem il_X1 : ∀ w ∈ u_ws RX1 TX1 12, w ∈ lw_tbl := by decide +kernel
theorem il_M : ∀ w ∈ u_ws RM TM 18, w ∈ lw_tbl := by decide +kernel
