set_option maxRecDepth 20000 in
theorem ggX6_wipe_X3_erase : GoodIn wsX6_wipe wsX3_erase := goodIn_r _ [7, 8, 25, 26, 27] (by decide +kernel) (by decide +kernel)
set_option maxRecDepth 20000 in
theorem gX6_wipe_X3_erase : GoodIn wsX6_wipe (wsV RX6 117 RX3 yX3_erase wsX3_erase) := goodIn_app (goodIn_of _ (by decide +kernel)) ggX6_wipe_X3_erase
set_option maxRecDepth 20000 in
theorem ggX6_number_X6_isOutOfRange : GoodIn wsX6_number wsX6_isOutOfRange := goodIn_r _ [11] (by decide +kernel) (by decide +kernel)
set_option maxRecDepth 20000 in
theorem gX6_number_X6_isOutOfRange : GoodIn wsX6_number (va_wsS RX6 99 yX6_isOutOfRange wsX6_isOutOfRange) := goodIn_app (goodIn_of _ (by decide +kernel)) ggX6_number_X6_isOutOfRange
set_option maxRecDepth 20000 in
theorem ggX6_number_X4_addExpected : GoodIn wsX6_number wsX4_addExpected := goodIn_ca (goodIn_r _ [16, 17, 18, 41, 42, 43, 44, 45] (by decide +kernel) (by decide +kernel)) (goodIn_sub (fun _ h => List.mem_cons_of_mem _ (List.mem_append_right _ h)) (by decide +kernel))
set_option maxRecDepth 20000 in
theorem gX6_number_X4_addExpected : GoodIn wsX6_number (wsV RX6 128 RX4 yX4_addExpected wsX4_addExpected) := goodIn_app (goodIn_of _ (by decide +kernel)) ggX6_number_X4_addExpected
set_option maxRecDepth 20000 in
theorem ggX6_number_X4_addInput : GoodIn wsX6_number wsX4_addInput := goodIn_ca (goodIn_r _ [22, 23, 24, 41, 42, 43, 44, 45] (by decide +kernel) (by decide +kernel)) (goodIn_sub (fun _ h => List.mem_cons_of_mem _ (List.mem_append_right _ h)) (by decide +kernel))
set_option maxRecDepth 20000 in
theorem gX6_number_X4_addInput : GoodIn wsX6_number (wsV RX6 131 RX4 yX4_addInput wsX4_addInput) := goodIn_app (goodIn_of _ (by decide +kernel)) ggX6_number_X4_addInput
set_option maxRecDepth 20000 in
theorem ggX6_clear_X4_erase : GoodIn wsX6_clear wsX4_erase := goodIn_r _ [8, 9, 10, 27, 28, 29, 30, 31] (by decide +kernel) (by decide +kernel)
set_option maxRecDepth 20000 in
theorem gX6_clear_X4_erase : GoodIn wsX6_clear (wsV RX6 134 RX4 yX4_erase wsX4_erase) := goodIn_app (goodIn_of _ (by decide +kernel)) ggX6_clear_X4_erase
set_option maxRecDepth 20000 in
theorem ggX6_test_X6_kataAt : GoodIn wsX6_test wsX6_kataAt := goodIn_ca (goodIn_r _ [9, 10, 11, 12, 13, 112, 113, 114, 115, 116, 117, 118, 119, 120, 121, 122, 123, 124, 125, 126, 127] (by decide +kernel) (by decide +kernel)) (goodIn_sub (fun _ h => List.mem_cons_of_mem _ (List.mem_append_left _ (List.mem_append_left _ (List.mem_append_right _ h)))) (by decide +kernel))
set_option maxRecDepth 20000 in
theorem gX6_test_X6_kataAt : GoodIn wsX6_test (wsV RX6 142 RX6 yX6_kataAt wsX6_kataAt) := goodIn_app (goodIn_of _ (by decide +kernel)) ggX6_test_X6_kataAt
set_option maxRecDepth 20000 in
theorem ggX6_fix_X6_kataAt : GoodIn wsX6_fix wsX6_kataAt := goodIn_ca (goodIn_r _ [5, 6, 7, 8, 9, 111, 112, 113, 114, 115, 116, 117, 118, 119, 120, 121, 122, 123, 124, 125, 126] (by decide +kernel) (by decide +kernel)) (goodIn_sub (fun _ h => List.mem_cons_of_mem _ (List.mem_append_left _ (List.mem_append_left _ (List.mem_append_right _ h)))) (by decide +kernel))
set_option maxRecDepth 20000 in
theorem gX6_fix_X6_kataAt : GoodIn wsX6_fix (wsV RX6 142 RX6 yX6_kataAt wsX6_kataAt) := goodIn_app (goodIn_of _ (by decide +kernel)) ggX6_fix_X6_kataAt
set_option maxRecDepth 20000 in
theorem ggX6_tests_X6_kataAt : GoodIn wsX6_tests wsX6_kataAt := goodIn_ca (goodIn_r _ [6, 7, 8, 9, 10, 14, 15, 16, 17, 18, 19, 20, 21, 22, 23, 24, 25, 26, 27, 28, 29] (by decide +kernel) (by decide +kernel)) (goodIn_sub (fun _ h => List.mem_cons_of_mem _ (List.mem_append_right _ h)) (by decide +kernel))
set_option maxRecDepth 20000 in
theorem gX6_tests_X6_kataAt : GoodIn wsX6_tests (wsV RX6 142 RX6 yX6_kataAt wsX6_kataAt) := goodIn_app (goodIn_of _ (by decide +kernel)) ggX6_tests_X6_kataAt
set_option maxRecDepth 20000 in
theorem ggX6_run_X6_kataAt : GoodIn wsX6_run wsX6_kataAt := goodIn_ca (goodIn_r _ [10, 11, 12, 13, 14, 88, 89, 90, 91, 92, 93, 94, 95, 96, 97, 98, 99, 100, 101, 102, 103] (by decide +kernel) (by decide +kernel)) (goodIn_sub (fun _ h => List.mem_cons_of_mem _ (List.mem_append_left _ (List.mem_append_left _ (List.mem_append_right _ h)))) (by decide +kernel))
set_option maxRecDepth 20000 in
theorem gX6_run_X6_kataAt : GoodIn wsX6_run (wsV RX6 142 RX6 yX6_kataAt wsX6_kataAt) := goodIn_app (goodIn_of _ (by decide +kernel)) ggX6_run_X6_kataAt
set_option maxRecDepth 20000 in
theorem ggX6_done_X6_lastRun : GoodIn wsX6_done wsX6_lastRun := goodIn_ca (goodIn_r _ [6, 7, 8, 9, 10, 20, 21, 22, 23, 24, 25, 26, 27, 28, 29, 30, 31, 32, 33, 34, 35] (by decide +kernel) (by decide +kernel)) (goodIn_sub (fun _ h => List.mem_cons_of_mem _ (List.mem_append_right _ h)) (by decide +kernel))
set_option maxRecDepth 20000 in
theorem gX6_done_X6_lastRun : GoodIn wsX6_done (wsV RX6 176 RX6 yX6_lastRun wsX6_lastRun) := goodIn_app (goodIn_of _ (by decide +kernel)) ggX6_done_X6_lastRun
set_option maxRecDepth 20000 in
theorem ggX6_outputs_X6_lastRun : GoodIn wsX6_outputs wsX6_lastRun := goodIn_ca (goodIn_r _ [6, 7, 8, 9, 10, 20, 21, 22, 23, 24, 25, 26, 27, 28, 29, 30, 31, 32, 33, 34, 35] (by decide +kernel) (by decide +kernel)) (goodIn_sub (fun _ h => List.mem_cons_of_mem _ (List.mem_append_right _ h)) (by decide +kernel))
set_option maxRecDepth 20000 in
theorem gX6_outputs_X6_lastRun : GoodIn wsX6_outputs (wsV RX6 176 RX6 yX6_lastRun wsX6_lastRun) := goodIn_app (goodIn_of _ (by decide +kernel)) ggX6_outputs_X6_lastRun
set_option maxRecDepth 20000 in
theorem ggX6_output_X6_lastRun : GoodIn wsX6_output wsX6_lastRun := goodIn_ca (goodIn_r _ [9, 1, 2, 10, 11, 21, 22, 23, 24, 25, 26, 27, 28, 29, 30, 31, 32, 33, 34, 35, 36] (by decide +kernel) (by decide +kernel)) (goodIn_sub (fun _ h => List.mem_cons_of_mem _ (List.mem_append_left _ (List.mem_append_right _ h))) (by decide +kernel))
set_option maxRecDepth 20000 in
theorem gX6_output_X6_lastRun : GoodIn wsX6_output (wsV RX6 176 RX6 yX6_lastRun wsX6_lastRun) := goodIn_app (goodIn_of _ (by decide +kernel)) ggX6_output_X6_lastRun
set_option maxRecDepth 20000 in
theorem ggX6_depth_X6_lastRun : GoodIn wsX6_depth wsX6_lastRun := goodIn_ca (goodIn_r _ [6, 7, 8, 9, 10, 20, 21, 22, 23, 24, 25, 26, 27, 28, 29, 30, 31, 32, 33, 34, 35] (by decide +kernel) (by decide +kernel)) (goodIn_sub (fun _ h => List.mem_cons_of_mem _ (List.mem_append_right _ h)) (by decide +kernel))
set_option maxRecDepth 20000 in
theorem gX6_depth_X6_lastRun : GoodIn wsX6_depth (wsV RX6 176 RX6 yX6_lastRun wsX6_lastRun) := goodIn_app (goodIn_of _ (by decide +kernel)) ggX6_depth_X6_lastRun
set_option maxRecDepth 20000 in
theorem ggX6_submit_X6_memberAt : GoodIn wsX6_submit wsX6_memberAt := goodIn_ca (goodIn_r _ [13, 14, 15, 16, 17, 159, 160, 161, 162, 163, 164, 165, 166, 167, 168, 169, 170, 171, 172, 173, 174] (by decide +kernel) (by decide +kernel)) (goodIn_sub (fun _ h => List.mem_cons_of_mem _ (List.mem_append_left _ (List.mem_append_left _ (List.mem_append_right _ h)))) (by decide +kernel))
set_option maxRecDepth 20000 in
theorem gX6_submit_X6_memberAt : GoodIn wsX6_submit (wsV RX6 199 RX6 yX6_memberAt wsX6_memberAt) := goodIn_app (goodIn_of _ (by decide +kernel)) ggX6_submit_X6_memberAt
set_option maxRecDepth 20000 in
theorem ggX6_of_X6_workAt : GoodIn wsX6_of wsX6_workAt := goodIn_ca (goodIn_r _ [12, 13, 14, 15, 16, 34, 35, 36, 37, 38, 39, 40, 41, 42, 43, 44, 45, 46, 47, 48, 49] (by decide +kernel) (by decide +kernel)) (goodIn_sub (fun _ h => List.mem_cons_of_mem _ (List.mem_append_right _ h)) (by decide +kernel))
set_option maxRecDepth 20000 in
theorem gX6_of_X6_workAt : GoodIn wsX6_of (wsV RX6 219 RX6 yX6_workAt wsX6_workAt) := goodIn_app (goodIn_of _ (by decide +kernel)) ggX6_of_X6_workAt
set_option maxRecDepth 20000 in
theorem ggX6_state_X6_workAt : GoodIn wsX6_state wsX6_workAt := goodIn_ca (goodIn_r _ [6, 7, 8, 9, 10, 28, 29, 30, 31, 32, 33, 34, 35, 36, 37, 38, 39, 40, 41, 42, 43] (by decide +kernel) (by decide +kernel)) (goodIn_sub (fun _ h => List.mem_cons_of_mem _ (List.mem_append_right _ h)) (by decide +kernel))
set_option maxRecDepth 20000 in
theorem gX6_state_X6_workAt : GoodIn wsX6_state (wsV RX6 219 RX6 yX6_workAt wsX6_workAt) := goodIn_app (goodIn_of _ (by decide +kernel)) ggX6_state_X6_workAt
set_option maxRecDepth 20000 in
theorem ggX6_sum_X6_workAt : GoodIn wsX6_sum wsX6_workAt := goodIn_ca (goodIn_r _ [6, 7, 8, 9, 10, 28, 29, 30, 31, 32, 33, 34, 35, 36, 37, 38, 39, 40, 41, 42, 43] (by decide +kernel) (by decide +kernel)) (goodIn_sub (fun _ h => List.mem_cons_of_mem _ (List.mem_append_right _ h)) (by decide +kernel))
set_option maxRecDepth 20000 in
theorem gX6_sum_X6_workAt : GoodIn wsX6_sum (wsV RX6 219 RX6 yX6_workAt wsX6_workAt) := goodIn_app (goodIn_of _ (by decide +kernel)) ggX6_sum_X6_workAt
set_option maxRecDepth 20000 in
theorem ggX6_steps_X6_workAt : GoodIn wsX6_steps wsX6_workAt := goodIn_ca (goodIn_r _ [9, 10, 11, 12, 13, 94, 95, 96, 97, 98, 99, 100, 101, 102, 103, 104, 105, 106, 107, 108, 109] (by decide +kernel) (by decide +kernel)) (goodIn_sub (fun _ h => List.mem_cons_of_mem _ (List.mem_append_left _ (List.mem_append_left _ (List.mem_append_right _ h)))) (by decide +kernel))
set_option maxRecDepth 20000 in
theorem gX6_steps_X6_workAt : GoodIn wsX6_steps (wsV RX6 219 RX6 yX6_workAt wsX6_workAt) := goodIn_app (goodIn_of _ (by decide +kernel)) ggX6_steps_X6_workAt
set_option maxRecDepth 20000 in
theorem ggX6_hasBody_X6_workAt : GoodIn wsX6_hasBody wsX6_workAt := goodIn_ca (goodIn_r _ [6, 7, 8, 9, 10, 28, 29, 30, 31, 32, 33, 34, 35, 36, 37, 38, 39, 40, 41, 42, 43] (by decide +kernel) (by decide +kernel)) (goodIn_sub (fun _ h => List.mem_cons_of_mem _ (List.mem_append_right _ h)) (by decide +kernel))
set_option maxRecDepth 20000 in
theorem gX6_hasBody_X6_workAt : GoodIn wsX6_hasBody (wsV RX6 219 RX6 yX6_workAt wsX6_workAt) := goodIn_app (goodIn_of _ (by decide +kernel)) ggX6_hasBody_X6_workAt
set_option maxRecDepth 20000 in
theorem ggX6_letter_X6_workAt : GoodIn wsX6_letter wsX6_workAt := goodIn_ca (goodIn_r _ [11, 12, 13, 14, 15, 36, 37, 38, 39, 40, 41, 42, 43, 44, 45, 46, 47, 48, 49, 50, 51] (by decide +kernel) (by decide +kernel)) (goodIn_sub (fun _ h => List.mem_cons_of_mem _ (List.mem_append_right _ h)) (by decide +kernel))
set_option maxRecDepth 20000 in
theorem gX6_letter_X6_workAt : GoodIn wsX6_letter (wsV RX6 219 RX6 yX6_workAt wsX6_workAt) := goodIn_app (goodIn_of _ (by decide +kernel)) ggX6_letter_X6_workAt
set_option maxRecDepth 20000 in
theorem ggX6_drop_X6_workAt : GoodIn wsX6_drop wsX6_workAt := goodIn_ca (goodIn_r _ [8, 9, 10, 11, 12, 116, 117, 118, 119, 120, 121, 122, 123, 124, 125, 126, 127, 128, 129, 130, 131] (by decide +kernel) (by decide +kernel)) (goodIn_sub (fun _ h => List.mem_cons_of_mem _ (List.mem_append_left _ (List.mem_append_left _ (List.mem_append_right _ h)))) (by decide +kernel))
set_option maxRecDepth 20000 in
theorem gX6_drop_X6_workAt : GoodIn wsX6_drop (wsV RX6 219 RX6 yX6_workAt wsX6_workAt) := goodIn_app (goodIn_of _ (by decide +kernel)) ggX6_drop_X6_workAt
set_option maxRecDepth 20000 in
theorem ggX6_capacity_X6_makeRoom : GoodIn wsX6_capacity wsX6_makeRoom := goodIn_ca (goodIn_ca (goodIn_r _ [8, 3, 9, 10, 11, 12, 7, 13, 14, 15, 16, 17, 18, 19, 20, 21, 22, 23, 24, 25, 26, 27, 28, 29, 30, 31, 32, 33, 34, 35, 36, 37, 38, 39, 40, 41, 42, 43, 44, 45, 46, 47, 48, 49, 50, 51, 52, 53, 54, 55, 56, 57, 58, 59, 60, 61, 62, 63, 64, 65, 66, 67, 68, 69, 70, 71, 72, 73, 74, 75, 76, 77, 78, 79, 80, 81, 82, 83, 84, 85, 86, 87, 88, 89, 90, 91, 92, 93, 94, 95, 96, 97, 98, 99, 100, 101, 102, 103, 104, 105, 106, 107, 108, 109, 110, 111, 112, 113, 114, 115, 116, 117, 118, 119, 120, 121, 122, 123, 124, 125, 126, 127, 128, 129, 130, 131, 132, 133, 134, 135, 136, 137, 138, 139, 140, 141, 142, 143, 144, 145, 146, 147, 148, 149, 150, 151, 152, 153, 154, 155, 156, 157, 158] (by decide +kernel) (by decide +kernel)) (goodIn_sub (fun _ h => List.mem_cons_of_mem _ (List.mem_append_left _ (List.mem_append_right _ h))) (by decide +kernel))) (goodIn_sub (fun _ h => List.mem_cons_of_mem _ (List.mem_append_right _ h)) (by decide +kernel))
set_option maxRecDepth 20000 in
theorem gX6_capacity_X6_makeRoom : GoodIn wsX6_capacity (wsV RX6 215 RX6 yX6_makeRoom wsX6_makeRoom) := goodIn_app (goodIn_of _ (by decide +kernel)) ggX6_capacity_X6_makeRoom
set_option maxRecDepth 20000 in
theorem ggX6_bodies_X6_bodyCount : GoodIn wsX6_bodies wsX6_bodyCount := goodIn_r _ [5, 6, 7, 8, 9, 10, 11, 12, 13, 14, 15, 16, 17, 18, 19, 20, 21, 22, 23, 24, 25, 26, 27, 28, 29, 30, 31, 32, 33, 34, 35, 36, 37, 38, 39, 40, 41] (by decide +kernel) (by decide +kernel)
set_option maxRecDepth 20000 in
theorem gX6_bodies_X6_bodyCount : GoodIn wsX6_bodies (wsV RX6 270 RX6 yX6_bodyCount wsX6_bodyCount) := goodIn_app (goodIn_of _ (by decide +kernel)) ggX6_bodies_X6_bodyCount
set_option maxRecDepth 20000 in
theorem ggX6_read_X6_memberAt : GoodIn wsX6_read wsX6_memberAt := goodIn_ca (goodIn_r _ [10, 11, 12, 13, 14, 62, 63, 64, 65, 66, 67, 68, 69, 70, 71, 72, 73, 74, 75, 76, 77] (by decide +kernel) (by decide +kernel)) (goodIn_sub (fun _ h => List.mem_cons_of_mem _ (List.mem_append_left _ (List.mem_append_right _ h))) (by decide +kernel))
set_option maxRecDepth 20000 in
theorem gX6_read_X6_memberAt : GoodIn wsX6_read (wsV RX6 199 RX6 yX6_memberAt wsX6_memberAt) := goodIn_app (goodIn_of _ (by decide +kernel)) ggX6_read_X6_memberAt
set_option maxRecDepth 20000 in
theorem ggX6_copy_X6_memberAt : GoodIn wsX6_copy wsX6_memberAt := goodIn_ca (goodIn_r _ [9, 10, 11, 12, 13, 18, 19, 20, 21, 22, 23, 24, 25, 26, 27, 28, 29, 30, 31, 32, 33] (by decide +kernel) (by decide +kernel)) (goodIn_sub (fun _ h => List.mem_cons_of_mem _ (List.mem_append_right _ h)) (by decide +kernel))
set_option maxRecDepth 20000 in
theorem gX6_copy_X6_memberAt : GoodIn wsX6_copy (wsV RX6 199 RX6 yX6_memberAt wsX6_memberAt) := goodIn_app (goodIn_of _ (by decide +kernel)) ggX6_copy_X6_memberAt
set_option maxRecDepth 20000 in
theorem ggX6_vote_X6_memberAt : GoodIn wsX6_vote wsX6_memberAt := goodIn_ca (goodIn_r _ [9, 10, 11, 12, 13, 80, 81, 82, 83, 84, 85, 86, 87, 88, 89, 90, 91, 92, 93, 94, 95] (by decide +kernel) (by decide +kernel)) (goodIn_sub (fun _ h => List.mem_cons_of_mem _ (List.mem_append_left _ (List.mem_append_right _ h))) (by decide +kernel))
set_option maxRecDepth 20000 in
theorem gX6_vote_X6_memberAt : GoodIn wsX6_vote (wsV RX6 199 RX6 yX6_memberAt wsX6_memberAt) := goodIn_app (goodIn_of _ (by decide +kernel)) ggX6_vote_X6_memberAt
set_option maxRecDepth 20000 in
theorem ggX6_style_X6_workAt : GoodIn wsX6_style wsX6_workAt := goodIn_ca (goodIn_r _ [5, 6, 7, 8, 9, 24, 25, 26, 27, 28, 29, 30, 31, 32, 33, 34, 35, 36, 37, 38, 39] (by decide +kernel) (by decide +kernel)) (goodIn_sub (fun _ h => List.mem_cons_of_mem _ (List.mem_append_right _ h)) (by decide +kernel))
set_option maxRecDepth 20000 in
theorem gX6_style_X6_workAt : GoodIn wsX6_style (wsV RX6 219 RX6 yX6_workAt wsX6_workAt) := goodIn_app (goodIn_of _ (by decide +kernel)) ggX6_style_X6_workAt
set_option maxRecDepth 20000 in
theorem ggX6_review_X6_memberAt : GoodIn wsX6_review wsX6_memberAt := goodIn_ca (goodIn_r _ [10, 11, 12, 13, 14, 29, 30, 31, 32, 33, 34, 35, 36, 37, 38, 39, 40, 41, 42, 43, 44] (by decide +kernel) (by decide +kernel)) (goodIn_sub (fun _ h => List.mem_cons_of_mem _ (List.mem_append_right _ h)) (by decide +kernel))
set_option maxRecDepth 20000 in
theorem gX6_review_X6_memberAt : GoodIn wsX6_review (wsV RX6 199 RX6 yX6_memberAt wsX6_memberAt) := goodIn_app (goodIn_of _ (by decide +kernel)) ggX6_review_X6_memberAt
set_option maxRecDepth 20000 in
theorem ggX6_best_X6_memberAt : GoodIn wsX6_best wsX6_memberAt := goodIn_ca (goodIn_r _ [8, 9, 10, 11, 12, 51, 52, 53, 54, 55, 56, 57, 58, 59, 60, 61, 62, 63, 64, 65, 66] (by decide +kernel) (by decide +kernel)) (goodIn_sub (fun _ h => List.mem_cons_of_mem _ (List.mem_append_right _ h)) (by decide +kernel))
set_option maxRecDepth 20000 in
theorem gX6_best_X6_memberAt : GoodIn wsX6_best (wsV RX6 199 RX6 yX6_memberAt wsX6_memberAt) := goodIn_app (goodIn_of _ (by decide +kernel)) ggX6_best_X6_memberAt
set_option maxRecDepth 20000 in
theorem ggX6_points_X6_memberAt : GoodIn wsX6_points wsX6_memberAt := goodIn_ca (goodIn_r _ [5, 6, 7, 8, 9, 56, 57, 58, 59, 60, 61, 62, 63, 64, 65, 66, 67, 68, 69, 70, 71] (by decide +kernel) (by decide +kernel)) (goodIn_sub (fun _ h => List.mem_cons_of_mem _ (List.mem_append_left _ (List.mem_append_right _ h))) (by decide +kernel))
set_option maxRecDepth 20000 in
theorem gX6_points_X6_memberAt : GoodIn wsX6_points (wsV RX6 199 RX6 yX6_memberAt wsX6_memberAt) := goodIn_app (goodIn_of _ (by decide +kernel)) ggX6_points_X6_memberAt
set_option maxRecDepth 20000 in
theorem ggX6_belt_X6_memberAt : GoodIn wsX6_belt wsX6_memberAt := goodIn_ca (goodIn_r _ [5, 6, 7, 8, 9, 60, 61, 62, 63, 64, 65, 66, 67, 68, 69, 70, 71, 72, 73, 74, 75] (by decide +kernel) (by decide +kernel)) (goodIn_sub (fun _ h => List.mem_cons_of_mem _ (List.mem_append_left _ (List.mem_append_right _ h))) (by decide +kernel))
set_option maxRecDepth 20000 in
theorem gX6_belt_X6_memberAt : GoodIn wsX6_belt (wsV RX6 199 RX6 yX6_memberAt wsX6_memberAt) := goodIn_app (goodIn_of _ (by decide +kernel)) ggX6_belt_X6_memberAt
set_option maxRecDepth 20000 in
theorem ggX6_honour_X6_memberAt : GoodIn wsX6_honour wsX6_memberAt := goodIn_ca (goodIn_r _ [6, 7, 8, 9, 10, 15, 16, 17, 18, 19, 20, 21, 22, 23, 24, 25, 26, 27, 28, 29, 30] (by decide +kernel) (by decide +kernel)) (goodIn_sub (fun _ h => List.mem_cons_of_mem _ (List.mem_append_right _ h)) (by decide +kernel))
set_option maxRecDepth 20000 in
theorem gX6_honour_X6_memberAt : GoodIn wsX6_honour (wsV RX6 199 RX6 yX6_memberAt wsX6_memberAt) := goodIn_app (goodIn_of _ (by decide +kernel)) ggX6_honour_X6_memberAt
set_option maxRecDepth 20000 in
theorem ggX6_challenge_X6_memberAt : GoodIn wsX6_challenge wsX6_memberAt := goodIn_ca (goodIn_r _ [16, 17, 18, 19, 20, 48, 49, 50, 51, 52, 53, 54, 55, 56, 57, 58, 59, 60, 61, 62, 63] (by decide +kernel) (by decide +kernel)) (goodIn_sub (fun _ h => List.mem_cons_of_mem _ (List.mem_append_right _ h)) (by decide +kernel))
set_option maxRecDepth 20000 in
theorem gX6_challenge_X6_memberAt : GoodIn wsX6_challenge (wsV RX6 199 RX6 yX6_memberAt wsX6_memberAt) := goodIn_app (goodIn_of _ (by decide +kernel)) ggX6_challenge_X6_memberAt
set_option maxRecDepth 20000 in
theorem ggX6_give_X6_memberAt : GoodIn wsX6_give wsX6_memberAt := goodIn_ca (goodIn_r _ [11, 12, 13, 14, 15, 182, 183, 184, 185, 186, 187, 188, 189, 190, 191, 192, 193, 194, 195, 196, 197] (by decide +kernel) (by decide +kernel)) (goodIn_sub (fun _ h => List.mem_cons_of_mem _ (List.mem_append_left _ (List.mem_append_left _ (List.mem_append_right _ h)))) (by decide +kernel))
set_option maxRecDepth 20000 in
theorem gX6_give_X6_memberAt : GoodIn wsX6_give (wsV RX6 199 RX6 yX6_memberAt wsX6_memberAt) := goodIn_app (goodIn_of _ (by decide +kernel)) ggX6_give_X6_memberAt
set_option maxRecDepth 20000 in
theorem ggX6_answer_X6_memberAt : GoodIn wsX6_answer wsX6_memberAt := goodIn_ca (goodIn_r _ [9, 10, 11, 12, 13, 191, 192, 193, 194, 195, 196, 197, 198, 199, 200, 201, 202, 203, 204, 205, 206] (by decide +kernel) (by decide +kernel)) (goodIn_sub (fun _ h => List.mem_cons_of_mem _ (List.mem_append_left _ (List.mem_append_left _ (List.mem_append_right _ h)))) (by decide +kernel))
set_option maxRecDepth 20000 in
theorem gX6_answer_X6_memberAt : GoodIn wsX6_answer (wsV RX6 199 RX6 yX6_memberAt wsX6_memberAt) := goodIn_app (goodIn_of _ (by decide +kernel)) ggX6_answer_X6_memberAt
set_option maxRecDepth 20000 in
theorem ggX6_left_X6_workAt : GoodIn wsX6_left wsX6_workAt := goodIn_ca (goodIn_r _ [9, 10, 11, 12, 13, 31, 32, 33, 34, 35, 36, 37, 38, 39, 40, 41, 42, 43, 44, 45, 46] (by decide +kernel) (by decide +kernel)) (goodIn_sub (fun _ h => List.mem_cons_of_mem _ (List.mem_append_right _ h)) (by decide +kernel))
set_option maxRecDepth 20000 in
theorem gX6_left_X6_workAt : GoodIn wsX6_left (wsV RX6 219 RX6 yX6_workAt wsX6_workAt) := goodIn_app (goodIn_of _ (by decide +kernel)) ggX6_left_X6_workAt
set_option maxRecDepth 20000 in
theorem ggX6_meanSteps_X6_workAt : GoodIn wsX6_meanSteps wsX6_workAt := goodIn_ca (goodIn_r _ [10, 11, 12, 13, 14, 90, 91, 92, 93, 94, 95, 96, 97, 98, 99, 100, 101, 102, 103, 104, 105] (by decide +kernel) (by decide +kernel)) (goodIn_sub (fun _ h => List.mem_cons_of_mem _ (List.mem_append_left _ (List.mem_append_left _ (List.mem_append_right _ h)))) (by decide +kernel))
set_option maxRecDepth 20000 in
theorem gX6_meanSteps_X6_workAt : GoodIn wsX6_meanSteps (wsV RX6 219 RX6 yX6_workAt wsX6_workAt) := goodIn_app (goodIn_of _ (by decide +kernel)) ggX6_meanSteps_X6_workAt
set_option maxRecDepth 20000 in
theorem ggX6_isSound_X6_bodyCount : GoodIn wsX6_isSound wsX6_bodyCount := goodIn_r _ [6, 7, 8, 9, 171, 172, 173, 174, 175, 176, 177, 178, 179, 180, 181, 182, 183, 184, 185, 186, 187, 188, 189, 190, 191, 192, 193, 194, 195, 196, 197, 198, 199, 200, 201, 202, 203] (by decide +kernel) (by decide +kernel)
set_option maxRecDepth 20000 in
theorem gX6_isSound_X6_bodyCount : GoodIn wsX6_isSound (wsV RX6 270 RX6 yX6_bodyCount wsX6_bodyCount) := goodIn_app (goodIn_of _ (by decide +kernel)) ggX6_isSound_X6_bodyCount
set_option maxRecDepth 20000 in
theorem ggX6_isSound_X6_areBodiesSound : GoodIn wsX6_isSound wsX6_areBodiesSound := goodIn_ca (goodIn_ca (goodIn_r _ [13, 7, 8, 9, 14, 15, 16, 17, 18, 19, 20, 21, 22, 23, 24, 25, 26, 27, 28, 29, 5, 30, 31, 32, 33, 34, 35, 36, 37, 38, 39, 40, 41, 42, 43, 44, 45, 46, 47, 48, 49, 50, 51, 52, 53, 54, 55, 56, 57, 58, 59, 60, 61, 62, 63, 64, 65, 66, 67, 68, 69, 70, 71, 72, 73, 74, 75, 76, 77, 78, 79, 80, 81, 82, 83, 84, 85, 86, 87, 88, 89, 90, 91, 92, 93, 94, 95, 96, 97, 98, 99, 171, 172, 173, 174, 175, 176, 177, 178, 179, 180, 181, 182, 183, 184, 185, 186, 187, 188, 189, 190, 191, 192, 193, 194, 195, 196, 197, 198, 199, 200, 201, 202, 203, 204, 205, 206, 207, 208, 209, 210, 211, 212, 213, 214, 215, 216, 217, 218, 219, 220, 221, 222, 223] (by decide +kernel) (by decide +kernel)) (goodIn_sub (fun _ h => List.mem_cons_of_mem _ (List.mem_append_left _ (List.mem_append_right _ h))) (by decide +kernel))) (goodIn_sub (fun _ h => List.mem_cons_of_mem _ (List.mem_append_right _ h)) (by decide +kernel))
set_option maxRecDepth 20000 in
theorem gX6_isSound_X6_areBodiesSound : GoodIn wsX6_isSound (wsV RX6 395 RX6 yX6_areBodiesSound wsX6_areBodiesSound) := goodIn_app (goodIn_of _ (by decide +kernel)) ggX6_isSound_X6_areBodiesSound
set_option maxRecDepth 20000 in
theorem ggX6_isSound_X6_areBeltsSound : GoodIn wsX6_isSound wsX6_areBeltsSound := goodIn_ca (goodIn_r _ [103, 7, 8, 104, 105, 106, 107, 108, 109, 110, 111, 112, 113, 114, 115, 116, 5, 117, 118, 119, 120, 121, 122, 123, 32, 124, 125, 126, 127, 128, 129, 130, 131, 132, 133, 134, 135, 136, 137, 138, 139, 140, 141, 142, 143, 144, 145, 146, 147, 148, 149, 150, 151, 152, 153, 31, 154, 155, 156, 157, 158, 159, 160, 171, 172, 173, 174, 175, 176, 177, 178, 179, 180, 181, 182, 183, 184, 185, 186, 187, 188, 189, 190, 191, 192, 193, 194, 195, 196, 197, 198, 199, 200, 201, 202, 203, 207, 208, 209] (by decide +kernel) (by decide +kernel)) (goodIn_sub (fun _ h => List.mem_cons_of_mem _ (List.mem_append_left _ (List.mem_append_right _ h))) (by decide +kernel))
set_option maxRecDepth 20000 in
theorem gX6_isSound_X6_areBeltsSound : GoodIn wsX6_isSound (wsV RX6 398 RX6 yX6_areBeltsSound wsX6_areBeltsSound) := goodIn_app (goodIn_of _ (by decide +kernel)) ggX6_isSound_X6_areBeltsSound
set_option maxRecDepth 20000 in
theorem ggX6_isSound_X6_areChallengesSound : GoodIn wsX6_isSound wsX6_areChallengesSound := goodIn_ca (goodIn_r _ [164, 7, 8, 16, 165, 166, 167, 168, 169, 5, 170, 171, 172, 173, 174, 175, 176, 177, 178, 179, 180, 181, 182, 183, 184, 185, 186, 187, 188, 189, 190, 191, 192, 193, 194, 195, 196, 197, 198, 199, 200, 201, 202, 203] (by decide +kernel) (by decide +kernel)) (goodIn_sub (fun _ h => List.mem_cons_of_mem _ (List.mem_append_left _ (List.mem_append_right _ h))) (by decide +kernel))
set_option maxRecDepth 20000 in
theorem gX6_isSound_X6_areChallengesSound : GoodIn wsX6_isSound (wsV RX6 401 RX6 yX6_areChallengesSound wsX6_areChallengesSound) := goodIn_app (goodIn_of _ (by decide +kernel)) ggX6_isSound_X6_areChallengesSound
set_option maxRecDepth 20000 in
theorem ggX6_makeRoom_X6_bodyCount : GoodIn wsX6_makeRoom wsX6_bodyCount := goodIn_r _ [7, 8, 2, 9, 100, 101, 102, 103, 104, 105, 106, 107, 108, 109, 110, 111, 112, 113, 114, 115, 116, 117, 118, 119, 120, 121, 122, 123, 124, 125, 126, 127, 128, 129, 130, 131, 132] (by decide +kernel) (by decide +kernel)
set_option maxRecDepth 20000 in
theorem gX6_makeRoom_X6_bodyCount : GoodIn wsX6_makeRoom (wsV RX6 270 RX6 yX6_bodyCount wsX6_bodyCount) := goodIn_app (goodIn_of _ (by decide +kernel)) ggX6_makeRoom_X6_bodyCount
set_option maxRecDepth 20000 in
theorem ggX7_wipe_X7_tells : GoodIn wsX7_wipe wsX7_tells := goodIn_r _ [7, 8, 9, 10, 11, 12, 13, 14, 15, 16, 17, 18, 19, 20, 21, 22, 23, 24, 25, 26, 27, 28, 29, 30, 31, 32, 33, 34, 35, 36, 37, 38, 39, 40, 41, 42, 43, 44, 45, 46, 47, 48, 49, 50, 51, 52, 53, 54] (by decide +kernel) (by decide +kernel)
set_option maxRecDepth 20000 in
theorem gX7_wipe_X7_tells : GoodIn wsX7_wipe (wsV RX7 169 RX7 yX7_tells wsX7_tells) := goodIn_app (goodIn_of _ (by decide +kernel)) ggX7_wipe_X7_tells
set_option maxRecDepth 20000 in
theorem ggX7_number_X7_in : GoodIn wsX7_number wsX7_in := goodIn_r _ [8] (by decide +kernel) (by decide +kernel)
set_option maxRecDepth 20000 in
theorem gX7_number_X7_in : GoodIn wsX7_number (va_wsS RX7 161 yX7_in wsX7_in) := goodIn_app (goodIn_of _ (by decide +kernel)) ggX7_number_X7_in
set_option maxRecDepth 20000 in
theorem ggX7_number_X7_fails : GoodIn wsX7_number wsX7_fails := goodIn_r _ [12, 13, 18, 19, 20, 21, 22, 23, 24, 25, 26, 27, 28, 29, 30, 31, 32, 33, 34, 35, 36, 37, 38, 39, 40, 41, 42, 43, 44, 45, 46, 47, 48, 49, 50, 51, 52, 53, 54, 55, 56, 57, 58, 59, 60, 61, 62, 63] (by decide +kernel) (by decide +kernel)
set_option maxRecDepth 20000 in
theorem gX7_number_X7_fails : GoodIn wsX7_number (wsV RX7 165 RX7 yX7_fails wsX7_fails) := goodIn_app (goodIn_of _ (by decide +kernel)) ggX7_number_X7_fails
set_option maxRecDepth 20000 in
theorem ggX7_number_X7_tells : GoodIn wsX7_number wsX7_tells := goodIn_r _ [17, 13, 18, 19, 20, 21, 22, 23, 24, 25, 26, 27, 28, 29, 30, 31, 32, 33, 34, 35, 36, 37, 38, 39, 40, 41, 42, 43, 44, 45, 46, 47, 48, 49, 50, 51, 52, 53, 54, 55, 56, 57, 58, 59, 60, 61, 62, 63] (by decide +kernel) (by decide +kernel)
set_option maxRecDepth 20000 in
theorem gX7_number_X7_tells : GoodIn wsX7_number (wsV RX7 169 RX7 yX7_tells wsX7_tells) := goodIn_app (goodIn_of _ (by decide +kernel)) ggX7_number_X7_tells
set_option maxRecDepth 20000 in
theorem ggX7_clear_X7_clears : GoodIn wsX7_clear wsX7_clears := goodIn_r _ [5, 6, 7, 13, 14, 15, 16, 17, 18, 19, 20, 21, 22, 23, 24, 25, 26, 27, 28, 29, 30, 31, 32, 33, 34, 35, 36, 37, 38, 39, 40, 41, 42, 43, 44, 45, 46, 47, 48, 49, 50, 51, 52, 53, 54, 55, 56, 57, 58] (by decide +kernel) (by decide +kernel)
set_option maxRecDepth 20000 in
theorem gX7_clear_X7_clears : GoodIn wsX7_clear (wsV RX7 172 RX7 yX7_clears wsX7_clears) := goodIn_app (goodIn_of _ (by decide +kernel)) ggX7_clear_X7_clears
set_option maxRecDepth 20000 in
theorem ggX7_clear_X7_tells : GoodIn wsX7_clear wsX7_tells := goodIn_r _ [11, 12, 13, 14, 15, 16, 17, 18, 19, 20, 21, 22, 23, 24, 25, 26, 27, 28, 29, 30, 31, 32, 33, 34, 35, 36, 37, 38, 39, 40, 41, 42, 43, 44, 45, 46, 47, 48, 49, 50, 51, 52, 53, 54, 55, 56, 57, 58] (by decide +kernel) (by decide +kernel)
set_option maxRecDepth 20000 in
theorem gX7_clear_X7_tells : GoodIn wsX7_clear (wsV RX7 169 RX7 yX7_tells wsX7_tells) := goodIn_app (goodIn_of _ (by decide +kernel)) ggX7_clear_X7_tells
set_option maxRecDepth 20000 in
theorem ggX7_isKata_X7_in : GoodIn wsX7_isKata wsX7_in := goodIn_r _ [5] (by decide +kernel) (by decide +kernel)
set_option maxRecDepth 20000 in
theorem gX7_isKata_X7_in : GoodIn wsX7_isKata (va_wsS RX7 161 yX7_in wsX7_in) := goodIn_app (goodIn_of _ (by decide +kernel)) ggX7_isKata_X7_in
set_option maxRecDepth 20000 in
theorem ggX7_isTest_X7_isKata : GoodIn wsX7_isTest wsX7_isKata := goodIn_r _ [6, 7, 8, 9, 5, 10, 11, 12, 13, 14, 15, 16, 17, 18, 19, 20, 21, 22, 23, 24, 25, 26, 27, 28, 29, 30, 31, 32, 33, 34, 35, 36, 37, 38, 39, 40, 41, 42, 43, 44, 45, 46, 47, 48, 49, 50, 51, 52, 53, 54, 55, 56] (by decide +kernel) (by decide +kernel)
set_option maxRecDepth 20000 in
theorem gX7_isTest_X7_isKata : GoodIn wsX7_isTest (wsV RX7 192 RX7 yX7_isKata wsX7_isKata) := goodIn_app (goodIn_of _ (by decide +kernel)) ggX7_isTest_X7_isKata
set_option maxRecDepth 20000 in
theorem ggX7_kata_X7_in : GoodIn wsX7_kata wsX7_in := goodIn_r _ [6] (by decide +kernel) (by decide +kernel)
set_option maxRecDepth 20000 in
theorem gX7_kata_X7_in : GoodIn wsX7_kata (va_wsS RX7 161 yX7_in wsX7_in) := goodIn_app (goodIn_of _ (by decide +kernel)) ggX7_kata_X7_in
set_option maxRecDepth 20000 in
theorem ggX7_kata_X7_fails : GoodIn wsX7_kata wsX7_fails := goodIn_r _ [10, 11, 16, 17, 18, 19, 20, 21, 22, 23, 24, 25, 26, 27, 28, 29, 30, 31, 32, 33, 34, 35, 36, 37, 38, 39, 40, 41, 42, 43, 44, 45, 46, 47, 48, 49, 50, 51, 52, 53, 54, 55, 56, 57, 58, 59, 60, 61] (by decide +kernel) (by decide +kernel)
set_option maxRecDepth 20000 in
theorem gX7_kata_X7_fails : GoodIn wsX7_kata (wsV RX7 165 RX7 yX7_fails wsX7_fails) := goodIn_app (goodIn_of _ (by decide +kernel)) ggX7_kata_X7_fails
set_option maxRecDepth 20000 in
theorem ggX7_kata_X7_tells : GoodIn wsX7_kata wsX7_tells := goodIn_r _ [15, 11, 16, 17, 18, 19, 20, 21, 22, 23, 24, 25, 26, 27, 28, 29, 30, 31, 32, 33, 34, 35, 36, 37, 38, 39, 40, 41, 42, 43, 44, 45, 46, 47, 48, 49, 50, 51, 52, 53, 54, 55, 56, 57, 58, 59, 60, 61] (by decide +kernel) (by decide +kernel)
set_option maxRecDepth 20000 in
theorem gX7_kata_X7_tells : GoodIn wsX7_kata (wsV RX7 169 RX7 yX7_tells wsX7_tells) := goodIn_app (goodIn_of _ (by decide +kernel)) ggX7_kata_X7_tells
set_option maxRecDepth 20000 in
theorem ggX7_test_X7_isKata : GoodIn wsX7_test wsX7_isKata := goodIn_r _ [6, 7, 8, 9, 5, 10, 72, 73, 74, 75, 76, 77, 78, 79, 80, 81, 82, 83, 84, 85, 86, 87, 88, 89, 90, 91, 92, 93, 94, 95, 96, 97, 98, 99, 100, 101, 102, 103, 104, 105, 106, 107, 108, 109, 110, 111, 112, 113, 114, 115, 116, 117] (by decide +kernel) (by decide +kernel)
set_option maxRecDepth 20000 in
theorem gX7_test_X7_isKata : GoodIn wsX7_test (wsV RX7 192 RX7 yX7_isKata wsX7_isKata) := goodIn_app (goodIn_of _ (by decide +kernel)) ggX7_test_X7_isKata
set_option maxRecDepth 20000 in
theorem ggX7_test_X7_fails : GoodIn wsX7_test wsX7_fails := goodIn_r _ [14, 15, 72, 73, 74, 75, 76, 77, 78, 79, 80, 81, 82, 83, 84, 85, 86, 87, 88, 89, 90, 91, 92, 93, 94, 95, 96, 97, 98, 99, 100, 101, 102, 103, 104, 105, 106, 107, 108, 109, 110, 111, 112, 113, 114, 115, 116, 117] (by decide +kernel) (by decide +kernel)
set_option maxRecDepth 20000 in
theorem gX7_test_X7_fails : GoodIn wsX7_test (wsV RX7 165 RX7 yX7_fails wsX7_fails) := goodIn_app (goodIn_of _ (by decide +kernel)) ggX7_test_X7_fails
set_option maxRecDepth 20000 in
theorem ggX7_fix_X7_isTest : GoodIn wsX7_fix wsX7_isTest := goodIn_ca (goodIn_r _ [5, 6, 7, 8, 9, 4, 10, 11, 12, 13, 14, 76, 77, 78, 79, 80, 81, 82, 83, 84, 85, 86, 87, 88, 89, 90, 91, 92, 93, 94, 95, 96, 97, 98, 99, 100, 101, 102, 103, 104, 105, 106, 107, 108, 109, 110, 111, 112, 113, 114, 115, 116, 117, 118, 119, 120, 121] (by decide +kernel) (by decide +kernel)) (goodIn_sub (fun _ h => List.mem_cons_of_mem _ (List.mem_append_left _ (List.mem_append_right _ h))) (by decide +kernel))
set_option maxRecDepth 20000 in
theorem gX7_fix_X7_isTest : GoodIn wsX7_fix (wsV RX7 208 RX7 yX7_isTest wsX7_isTest) := goodIn_app (goodIn_of _ (by decide +kernel)) ggX7_fix_X7_isTest
set_option maxRecDepth 20000 in
theorem ggX7_fix_X7_fails : GoodIn wsX7_fix wsX7_fails := goodIn_r _ [75, 71, 76, 77, 78, 79, 80, 81, 82, 83, 84, 85, 86, 87, 88, 89, 90, 91, 92, 93, 94, 95, 96, 97, 98, 99, 100, 101, 102, 103, 104, 105, 106, 107, 108, 109, 110, 111, 112, 113, 114, 115, 116, 117, 118, 119, 120, 121] (by decide +kernel) (by decide +kernel)
set_option maxRecDepth 20000 in
theorem gX7_fix_X7_fails : GoodIn wsX7_fix (wsV RX7 165 RX7 yX7_fails wsX7_fails) := goodIn_app (goodIn_of _ (by decide +kernel)) ggX7_fix_X7_fails
set_option maxRecDepth 20000 in
theorem ggX7_tests_X7_isKata : GoodIn wsX7_tests wsX7_isKata := goodIn_r _ [6, 7, 8, 9, 5, 10, 20, 21, 22, 23, 24, 25, 26, 27, 28, 29, 30, 31, 32, 33, 34, 35, 36, 37, 38, 39, 40, 41, 42, 43, 44, 45, 46, 47, 48, 49, 50, 51, 52, 53, 54, 55, 56, 57, 58, 59, 60, 61, 62, 63, 64, 65] (by decide +kernel) (by decide +kernel)
set_option maxRecDepth 20000 in
theorem gX7_tests_X7_isKata : GoodIn wsX7_tests (wsV RX7 192 RX7 yX7_isKata wsX7_isKata) := goodIn_app (goodIn_of _ (by decide +kernel)) ggX7_tests_X7_isKata
set_option maxRecDepth 20000 in
theorem ggX7_tests_X7_fails : GoodIn wsX7_tests wsX7_fails := goodIn_r _ [19, 15, 20, 21, 22, 23, 24, 25, 26, 27, 28, 29, 30, 31, 32, 33, 34, 35, 36, 37, 38, 39, 40, 41, 42, 43, 44, 45, 46, 47, 48, 49, 50, 51, 52, 53, 54, 55, 56, 57, 58, 59, 60, 61, 62, 63, 64, 65] (by decide +kernel) (by decide +kernel)
set_option maxRecDepth 20000 in
theorem gX7_tests_X7_fails : GoodIn wsX7_tests (wsV RX7 165 RX7 yX7_fails wsX7_fails) := goodIn_app (goodIn_of _ (by decide +kernel)) ggX7_tests_X7_fails
set_option maxRecDepth 20000 in
theorem ggX7_run_X7_isTest : GoodIn wsX7_run wsX7_isTest := goodIn_ca (goodIn_r _ [15, 16, 17, 18, 19, 14, 20, 21, 22, 23, 24, 55, 56, 57, 58, 59, 60, 61, 62, 63, 64, 65, 66, 67, 68, 69, 70, 71, 72, 73, 74, 75, 76, 77, 78, 79, 80, 81, 82, 83, 84, 85, 86, 87, 88, 89, 90, 91, 92, 93, 94, 95, 96, 97, 98, 99, 100] (by decide +kernel) (by decide +kernel)) (goodIn_sub (fun _ h => List.mem_cons_of_mem _ (List.mem_append_left _ (List.mem_append_right _ h))) (by decide +kernel))
set_option maxRecDepth 20000 in
theorem gX7_run_X7_isTest : GoodIn wsX7_run (wsV RX7 208 RX7 yX7_isTest wsX7_isTest) := goodIn_app (goodIn_of _ (by decide +kernel)) ggX7_run_X7_isTest