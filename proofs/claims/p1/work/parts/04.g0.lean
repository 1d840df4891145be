set_option maxRecDepth 20000 in
theorem ggX0_init_X4_init : GoodIn wsX0_init wsX4_init := goodIn_r _ [12, 13, 2, 3, 14, 15, 16, 17, 18, 19, 23, 24, 25, 26, 27] (by decide +kernel) (by decide +kernel)
set_option maxRecDepth 20000 in
theorem ggX2_init_X3_init : GoodIn wsX2_init wsX3_init := goodIn_r _ [14, 15, 2, 3, 16, 17, 6, 18, 19, 24, 25, 26] (by decide +kernel) (by decide +kernel)
set_option maxRecDepth 20000 in
theorem ggX5_init_X3_init : GoodIn wsX5_init wsX3_init := goodIn_r _ [27, 28, 2, 3, 29, 30, 8, 31, 32, 33, 34, 35] (by decide +kernel) (by decide +kernel)
set_option maxRecDepth 20000 in
theorem ggX6_init_X3_init : GoodIn wsX6_init wsX3_init := goodIn_r _ [41, 42, 2, 3, 43, 44, 18, 45, 46, 111, 112, 113] (by decide +kernel) (by decide +kernel)
set_option maxRecDepth 20000 in
theorem ggX6_init_X4_init : GoodIn wsX6_init wsX4_init := goodIn_r _ [49, 50, 2, 3, 18, 51, 52, 53, 54, 55, 130, 131, 132, 133, 134] (by decide +kernel) (by decide +kernel)
set_option maxRecDepth 20000 in
theorem ggX6_init_X1_init : GoodIn wsX6_init wsX1_init := goodIn_r _ [58, 59, 2, 3, 18, 60, 61, 62, 63, 64, 65, 66, 67, 68, 135, 136, 137, 138, 139, 140, 141, 142, 143] (by decide +kernel) (by decide +kernel)
set_option maxRecDepth 20000 in
theorem ggX6_init_X0_init : GoodIn wsX6_init wsX0_init := goodIn_r _ [71, 72, 2, 3, 73, 74, 75, 76, 9, 10, 77, 48, 49, 50, 18, 51, 52, 53, 54, 55, 144, 145, 146, 130, 131, 132, 133, 134] (by decide +kernel) (by decide +kernel)
set_option maxRecDepth 20000 in
theorem ggX6_init_X2_init : GoodIn wsX6_init wsX2_init := goodIn_r _ [80, 81, 2, 3, 82, 83, 18, 84, 85, 86, 5, 6, 87, 40, 41, 42, 43, 44, 45, 46, 147, 148, 149, 150, 111, 112, 113] (by decide +kernel) (by decide +kernel)
set_option maxRecDepth 20000 in
theorem ggX6_init_X5_init : GoodIn wsX6_init wsX5_init := goodIn_r _ [90, 91, 2, 3, 92, 5, 6, 93, 18, 94, 95, 96, 97, 98, 99, 100, 101, 102, 103, 104, 105, 106, 107, 108, 109, 110, 40, 41, 42, 43, 44, 45, 46, 111, 112, 113, 151, 152, 153, 154, 155, 156, 157, 158, 159, 160, 161, 162, 163, 164, 165, 166, 167] (by decide +kernel) (by decide +kernel)
set_option maxRecDepth 20000 in
theorem ggX6_step_J0_indexOf_0f7a4 : GoodIn wsX6_step wsJ0_indexOf_0f7a4 := goodIn_r _ [11, 12, 13, 14, 10, 15, 16, 17, 18, 19, 20, 21, 22, 23, 24, 25, 26, 27, 28, 29, 30, 31, 32, 33, 34, 35, 36, 37, 38, 39, 40, 41, 42, 43, 44, 45, 46, 47, 48, 49, 50, 51, 52, 53, 54, 55, 56, 57, 58, 59, 60, 61, 62, 63, 64, 65, 66, 67, 68, 69, 70, 71, 72, 73, 74, 75, 76, 77, 78, 79, 80, 81, 82, 83, 84, 85, 86, 87, 88, 89, 90, 91, 92, 93, 94, 95, 127, 128] (by decide +kernel) (by decide +kernel)
set_option maxRecDepth 20000 in
theorem gX6_step_J0_indexOf_0f7a4 : GoodIn wsX6_step (wsV RX6 86 RJ0 yJ0_indexOf_0f7a4 wsJ0_indexOf_0f7a4) := goodIn_app (goodIn_of _ (by decide +kernel)) ggX6_step_J0_indexOf_0f7a4
set_option maxRecDepth 20000 in
theorem ggX6_step_X6_isOutOfRange : GoodIn wsX6_step wsX6_isOutOfRange := goodIn_r _ [99] (by decide +kernel) (by decide +kernel)
set_option maxRecDepth 20000 in
theorem gX6_step_X6_isOutOfRange : GoodIn wsX6_step (va_wsS RX6 99 yX6_isOutOfRange wsX6_isOutOfRange) := goodIn_app (goodIn_of _ (by decide +kernel)) ggX6_step_X6_isOutOfRange
set_option maxRecDepth 20000 in
theorem ggX6_step_X3_append : GoodIn wsX6_step wsX3_append := goodIn_ca (goodIn_r _ [104, 105, 106, 107, 124, 125, 126] (by decide +kernel) (by decide +kernel)) (goodIn_sub (fun _ h => List.mem_cons_of_mem _ (List.mem_append_right _ h)) (by decide +kernel))
set_option maxRecDepth 20000 in
theorem gX6_step_X3_append : GoodIn wsX6_step (wsV RX6 113 RX3 yX3_append wsX3_append) := goodIn_app (goodIn_of _ (by decide +kernel)) ggX6_step_X3_append
set_option maxRecDepth 20000 in
theorem ggX6_wipe_X3_erase : GoodIn wsX6_wipe wsX3_erase := goodIn_r _ [7, 8, 25, 26, 27] (by decide +kernel) (by decide +kernel)
set_option maxRecDepth 20000 in
theorem gX6_wipe_X3_erase : GoodIn wsX6_wipe (wsV RX6 117 RX3 yX3_erase wsX3_erase) := goodIn_app (goodIn_of _ (by decide +kernel)) ggX6_wipe_X3_erase
set_option maxRecDepth 20000 in
theorem ggX6_number_X6_isOutOfRange : GoodIn wsX6_number wsX6_isOutOfRange := goodIn_r _ [11] (by decide +kernel) (by decide +kernel)
set_option maxRecDepth 20000 in
theorem gX6_number_X6_isOutOfRange : GoodIn wsX6_number (va_wsS RX6 99 yX6_isOutOfRange wsX6_isOutOfRange) := goodIn_app (goodIn_of _ (by decide +kernel)) ggX6_number_X6_isOutOfRange
set_option maxRecDepth 20000 in
theorem ggX6_number_X4_addExpected : GoodIn wsX6_number wsX4_addExpected := goodIn_ca (goodIn_r _ [16, 17, 18, 41, 42, 43, 44, 45] (by decide +kernel) (by decide +kernel)) (goodIn_sub (fun _ h => List.mem_cons_of_mem _ (List.mem_append_right _ h)) (by decide +kernel))
set_option maxRecDepth 20000 in
theorem gX6_number_X4_addExpected : GoodIn wsX6_number (wsV RX6 128 RX4 yX4_addExpected wsX4_addExpected) := goodIn_app (goodIn_of _ (by decide +kernel)) ggX6_number_X4_addExpected
set_option maxRecDepth 20000 in
theorem ggX6_number_X4_addInput : GoodIn wsX6_number wsX4_addInput := goodIn_ca (goodIn_r _ [22, 23, 24, 41, 42, 43, 44, 45] (by decide +kernel) (by decide +kernel)) (goodIn_sub (fun _ h => List.mem_cons_of_mem _ (List.mem_append_right _ h)) (by decide +kernel))
set_option maxRecDepth 20000 in
theorem gX6_number_X4_addInput : GoodIn wsX6_number (wsV RX6 131 RX4 yX4_addInput wsX4_addInput) := goodIn_app (goodIn_of _ (by decide +kernel)) ggX6_number_X4_addInput
set_option maxRecDepth 20000 in
theorem ggX6_clear_X4_erase : GoodIn wsX6_clear wsX4_erase := goodIn_r _ [8, 9, 10, 27, 28, 29, 30, 31] (by decide +kernel) (by decide +kernel)
set_option maxRecDepth 20000 in
theorem gX6_clear_X4_erase : GoodIn wsX6_clear (wsV RX6 134 RX4 yX4_erase wsX4_erase) := goodIn_app (goodIn_of _ (by decide +kernel)) ggX6_clear_X4_erase
set_option maxRecDepth 20000 in
theorem ggX6_test_X6_kataAt : GoodIn wsX6_test wsX6_kataAt := goodIn_ca (goodIn_r _ [9, 10, 11, 12, 13, 112, 113, 114, 115, 116, 117, 118, 119, 120, 121, 122, 123, 124, 125, 126, 127] (by decide +kernel) (by decide +kernel)) (goodIn_sub (fun _ h => List.mem_cons_of_mem _ (List.mem_append_left _ (List.mem_append_left _ (List.mem_append_right _ h)))) (by decide +kernel))
set_option maxRecDepth 20000 in
theorem gX6_test_X6_kataAt : GoodIn wsX6_test (wsV RX6 142 RX6 yX6_kataAt wsX6_kataAt) := goodIn_app (goodIn_of _ (by decide +kernel)) ggX6_test_X6_kataAt
set_option maxRecDepth 20000 in
theorem ggX6_fix_X6_kataAt : GoodIn wsX6_fix wsX6_kataAt := goodIn_ca (goodIn_r _ [5, 6, 7, 8, 9, 111, 112, 113, 114, 115, 116, 117, 118, 119, 120, 121, 122, 123, 124, 125, 126] (by decide +kernel) (by decide +kernel)) (goodIn_sub (fun _ h => List.mem_cons_of_mem _ (List.mem_append_left _ (List.mem_append_left _ (List.mem_append_right _ h)))) (by decide +kernel))
set_option maxRecDepth 20000 in
theorem gX6_fix_X6_kataAt : GoodIn wsX6_fix (wsV RX6 142 RX6 yX6_kataAt wsX6_kataAt) := goodIn_app (goodIn_of _ (by decide +kernel)) ggX6_fix_X6_kataAt
set_option maxRecDepth 20000 in
theorem ggX6_tests_X6_kataAt : GoodIn wsX6_tests wsX6_kataAt := goodIn_ca (goodIn_r _ [6, 7, 8, 9, 10, 14, 15, 16, 17, 18, 19, 20, 21, 22, 23, 24, 25, 26, 27, 28, 29] (by decide +kernel) (by decide +kernel)) (goodIn_sub (fun _ h => List.mem_cons_of_mem _ (List.mem_append_right _ h)) (by decide +kernel))
set_option maxRecDepth 20000 in
theorem gX6_tests_X6_kataAt : GoodIn wsX6_tests (wsV RX6 142 RX6 yX6_kataAt wsX6_kataAt) := goodIn_app (goodIn_of _ (by decide +kernel)) ggX6_tests_X6_kataAt
set_option maxRecDepth 20000 in
theorem ggX6_run_X6_kataAt : GoodIn wsX6_run wsX6_kataAt := goodIn_ca (goodIn_r _ [10, 11, 12, 13, 14, 88, 89, 90, 91, 92, 93, 94, 95, 96, 97, 98, 99, 100, 101, 102, 103] (by decide +kernel) (by decide +kernel)) (goodIn_sub (fun _ h => List.mem_cons_of_mem _ (List.mem_append_left _ (List.mem_append_left _ (List.mem_append_right _ h)))) (by decide +kernel))
set_option maxRecDepth 20000 in
theorem gX6_run_X6_kataAt : GoodIn wsX6_run (wsV RX6 142 RX6 yX6_kataAt wsX6_kataAt) := goodIn_app (goodIn_of _ (by decide +kernel)) ggX6_run_X6_kataAt
set_option maxRecDepth 20000 in
theorem ggX6_done_X6_lastRun : GoodIn wsX6_done wsX6_lastRun := goodIn_ca (goodIn_r _ [6, 7, 8, 9, 10, 20, 21, 22, 23, 24, 25, 26, 27, 28, 29, 30, 31, 32, 33, 34, 35] (by decide +kernel) (by decide +kernel)) (goodIn_sub (fun _ h => List.mem_cons_of_mem _ (List.mem_append_right _ h)) (by decide +kernel))
set_option maxRecDepth 20000 in
theorem gX6_done_X6_lastRun : GoodIn wsX6_done (wsV RX6 176 RX6 yX6_lastRun wsX6_lastRun) := goodIn_app (goodIn_of _ (by decide +kernel)) ggX6_done_X6_lastRun
set_option maxRecDepth 20000 in
theorem ggX6_outputs_X6_lastRun : GoodIn wsX6_outputs wsX6_lastRun := goodIn_ca (goodIn_r _ [6, 7, 8, 9, 10, 20, 21, 22, 23, 24, 25, 26, 27, 28, 29, 30, 31, 32, 33, 34, 35] (by decide +kernel) (by decide +kernel)) (goodIn_sub (fun _ h => List.mem_cons_of_mem _ (List.mem_append_right _ h)) (by decide +kernel))
set_option maxRecDepth 20000 in
theorem gX6_outputs_X6_lastRun : GoodIn wsX6_outputs (wsV RX6 176 RX6 yX6_lastRun wsX6_lastRun) := goodIn_app (goodIn_of _ (by decide +kernel)) ggX6_outputs_X6_lastRun
set_option maxRecDepth 20000 in
theorem ggX6_output_X6_lastRun : GoodIn wsX6_output wsX6_lastRun := goodIn_ca (goodIn_r _ [9, 1, 2, 10, 11, 21, 22, 23, 24, 25, 26, 27, 28, 29, 30, 31, 32, 33, 34, 35, 36] (by decide +kernel) (by decide +kernel)) (goodIn_sub (fun _ h => List.mem_cons_of_mem _ (List.mem_append_left _ (List.mem_append_right _ h))) (by decide +kernel))
set_option maxRecDepth 20000 in
theorem gX6_output_X6_lastRun : GoodIn wsX6_output (wsV RX6 176 RX6 yX6_lastRun wsX6_lastRun) := goodIn_app (goodIn_of _ (by decide +kernel)) ggX6_output_X6_lastRun
set_option maxRecDepth 20000 in
theorem ggX6_depth_X6_lastRun : GoodIn wsX6_depth wsX6_lastRun := goodIn_ca (goodIn_r _ [6, 7, 8, 9, 10, 20, 21, 22, 23, 24, 25, 26, 27, 28, 29, 30, 31, 32, 33, 34, 35] (by decide +kernel) (by decide +kernel)) (goodIn_sub (fun _ h => List.mem_cons_of_mem _ (List.mem_append_right _ h)) (by decide +kernel))