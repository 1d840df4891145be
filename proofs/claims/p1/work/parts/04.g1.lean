set_option maxRecDepth 20000 in
theorem gX6_depth_X6_lastRun : GoodIn wsX6_depth (wsV RX6 176 RX6 yX6_lastRun wsX6_lastRun) := goodIn_app (goodIn_of _ (by decide +kernel)) ggX6_depth_X6_lastRun
set_option maxRecDepth 20000 in
theorem ggX6_submit_X6_memberAt : GoodIn wsX6_submit wsX6_memberAt := goodIn_ca (goodIn_r _ [13, 14, 15, 16, 17, 159, 160, 161, 162, 163, 164, 165, 166, 167, 168, 169, 170, 171, 172, 173, 174] (by decide +kernel) (by decide +kernel)) (goodIn_sub (fun _ h => List.mem_cons_of_mem _ (List.mem_append_left _ (List.mem_append_left _ (List.mem_append_right _ h)))) (by decide +kernel))
set_option maxRecDepth 20000 in
theorem gX6_submit_X6_memberAt : GoodIn wsX6_submit (wsV RX6 199 RX6 yX6_memberAt wsX6_memberAt) := goodIn_app (goodIn_of _ (by decide +kernel)) ggX6_submit_X6_memberAt
set_option maxRecDepth 20000 in
theorem ggX6_of_X6_workAt : GoodIn wsX6_of wsX6_workAt := goodIn_ca (goodIn_r _ [12, 13, 14, 15, 16, 34, 35, 36, 37, 38, 39, 40, 41, 42, 43, 44, 45, 46, 47, 48, 49] (by decide +kernel) (by decide +kernel)) (goodIn_sub (fun _ h => List.mem_cons_of_mem _ (List.mem_append_right _ h)) (by decide +kernel))
set_option maxRecDepth 20000 in
theorem gX6_of_X6_workAt : GoodIn wsX6_of (wsV RX6 219 RX6 yX6_workAt wsX6_workAt) := goodIn_app (goodIn_of _ (by decide +kernel)) ggX6_of_X6_workAt
set_option maxRecDepth 20000 in
theorem ggX6_state_X6_workAt : GoodIn wsX6_state wsX6_workAt := goodIn_ca (goodIn_r _ [6, 7, 8, 9, 10, 28, 29, 30, 31, 32, 33, 34, 35, 36, 37, 38, 39, 40, 41, 42, 43] (by decide +kernel) (by decide +kernel)) (goodIn_sub (fun _ h => List.mem_cons_of_mem _ (List.mem_append_right _ h)) (by decide +kernel))
set_option maxRecDepth 20000 in
theorem gX6_state_X6_workAt : GoodIn wsX6_state (wsV RX6 219 RX6 yX6_workAt wsX6_workAt) := goodIn_app (goodIn_of _ (by decide +kernel)) ggX6_state_X6_workAt
set_option maxRecDepth 20000 in
theorem ggX6_sum_X6_workAt : GoodIn wsX6_sum wsX6_workAt := goodIn_ca (goodIn_r _ [6, 7, 8, 9, 10, 28, 29, 30, 31, 32, 33, 34, 35, 36, 37, 38, 39, 40, 41, 42, 43] (by decide +kernel) (by decide +kernel)) (goodIn_sub (fun _ h => List.mem_cons_of_mem _ (List.mem_append_right _ h)) (by decide +kernel))
set_option maxRecDepth 20000 in
theorem gX6_sum_X6_workAt : GoodIn wsX6_sum (wsV RX6 219 RX6 yX6_workAt wsX6_workAt) := goodIn_app (goodIn_of _ (by decide +kernel)) ggX6_sum_X6_workAt
set_option maxRecDepth 20000 in
theorem ggX6_steps_X6_workAt : GoodIn wsX6_steps wsX6_workAt := goodIn_ca (goodIn_r _ [9, 10, 11, 12, 13, 94, 95, 96, 97, 98, 99, 100, 101, 102, 103, 104, 105, 106, 107, 108, 109] (by decide +kernel) (by decide +kernel)) (goodIn_sub (fun _ h => List.mem_cons_of_mem _ (List.mem_append_left _ (List.mem_append_left _ (List.mem_append_right _ h)))) (by decide +kernel))
set_option maxRecDepth 20000 in
theorem gX6_steps_X6_workAt : GoodIn wsX6_steps (wsV RX6 219 RX6 yX6_workAt wsX6_workAt) := goodIn_app (goodIn_of _ (by decide +kernel)) ggX6_steps_X6_workAt
set_option maxRecDepth 20000 in
theorem ggX6_steps_X6_testAt : GoodIn wsX6_steps wsX6_testAt := goodIn_ca (goodIn_r _ [17, 10, 11, 18, 19, 127, 128, 129] (by decide +kernel) (by decide +kernel)) (goodIn_sub (fun _ h => List.mem_cons_of_mem _ (List.mem_append_left _ (List.mem_append_left _ (List.mem_append_right _ h)))) (by decide +kernel))
set_option maxRecDepth 20000 in
theorem gX6_steps_X6_testAt : GoodIn wsX6_steps (wsV RX6 159 RX6 yX6_testAt wsX6_testAt) := goodIn_app (goodIn_of _ (by decide +kernel)) ggX6_steps_X6_testAt
set_option maxRecDepth 20000 in
theorem ggX6_steps_X6_stepsTold : GoodIn wsX6_steps wsX6_stepsTold := goodIn_ca (goodIn_ca (goodIn_r _ [23, 24, 25, 3, 4, 19, 26, 27, 28, 29, 30, 8, 31, 32, 33, 34, 35, 36, 37, 38, 39, 40, 41, 42, 43, 44, 45, 46, 47, 48, 49, 50, 51, 52, 53, 54, 55, 56, 57, 58, 59, 60, 61, 62, 63, 64, 65, 66, 67, 68, 69, 70, 71, 72, 73, 74, 75, 76, 77, 78, 79, 80, 81, 82, 83, 84, 85, 86, 87, 88, 89, 90, 91, 92, 93, 110, 111, 112, 113, 114, 115, 116, 117, 118, 119, 120, 121, 122, 123, 124, 125, 126, 94, 95, 96, 97, 98, 99, 100, 101, 102, 103, 104, 105, 106, 107, 108, 109, 127, 128, 129, 130, 131, 132, 133, 134, 135, 136, 137, 138, 139, 140, 141, 142, 143, 144, 145, 146] (by decide +kernel) (by decide +kernel)) (goodIn_sub (fun _ h => List.mem_cons_of_mem _ (List.mem_append_left _ (List.mem_append_right _ h))) (by decide +kernel))) (goodIn_sub (fun _ h => List.mem_cons_of_mem _ (List.mem_append_right _ h)) (by decide +kernel))
set_option maxRecDepth 20000 in
theorem gX6_steps_X6_stepsTold : GoodIn wsX6_steps (wsV RX6 246 RX6 yX6_stepsTold wsX6_stepsTold) := goodIn_app (goodIn_of _ (by decide +kernel)) ggX6_steps_X6_stepsTold
set_option maxRecDepth 20000 in
theorem ggX6_hasBody_X6_workAt : GoodIn wsX6_hasBody wsX6_workAt := goodIn_ca (goodIn_r _ [6, 7, 8, 9, 10, 28, 29, 30, 31, 32, 33, 34, 35, 36, 37, 38, 39, 40, 41, 42, 43] (by decide +kernel) (by decide +kernel)) (goodIn_sub (fun _ h => List.mem_cons_of_mem _ (List.mem_append_right _ h)) (by decide +kernel))
set_option maxRecDepth 20000 in
theorem gX6_hasBody_X6_workAt : GoodIn wsX6_hasBody (wsV RX6 219 RX6 yX6_workAt wsX6_workAt) := goodIn_app (goodIn_of _ (by decide +kernel)) ggX6_hasBody_X6_workAt
set_option maxRecDepth 20000 in
theorem ggX6_letter_X6_workAt : GoodIn wsX6_letter wsX6_workAt := goodIn_ca (goodIn_r _ [11, 12, 13, 14, 15, 36, 37, 38, 39, 40, 41, 42, 43, 44, 45, 46, 47, 48, 49, 50, 51] (by decide +kernel) (by decide +kernel)) (goodIn_sub (fun _ h => List.mem_cons_of_mem _ (List.mem_append_right _ h)) (by decide +kernel))
set_option maxRecDepth 20000 in
theorem gX6_letter_X6_workAt : GoodIn wsX6_letter (wsV RX6 219 RX6 yX6_workAt wsX6_workAt) := goodIn_app (goodIn_of _ (by decide +kernel)) ggX6_letter_X6_workAt
set_option maxRecDepth 20000 in
theorem ggX6_drop_X6_workAt : GoodIn wsX6_drop wsX6_workAt := goodIn_ca (goodIn_r _ [8, 9, 10, 11, 12, 116, 117, 118, 119, 120, 121, 122, 123, 124, 125, 126, 127, 128, 129, 130, 131] (by decide +kernel) (by decide +kernel)) (goodIn_sub (fun _ h => List.mem_cons_of_mem _ (List.mem_append_left _ (List.mem_append_left _ (List.mem_append_right _ h)))) (by decide +kernel))
set_option maxRecDepth 20000 in
theorem gX6_drop_X6_workAt : GoodIn wsX6_drop (wsV RX6 219 RX6 yX6_workAt wsX6_workAt) := goodIn_app (goodIn_of _ (by decide +kernel)) ggX6_drop_X6_workAt
set_option maxRecDepth 20000 in
theorem ggX6_capacity_X6_makeRoom : GoodIn wsX6_capacity wsX6_makeRoom := goodIn_ca (goodIn_ca (goodIn_r _ [8, 3, 9, 10, 11, 12, 7, 13, 14, 15, 16, 17, 18, 19, 20, 21, 22, 23, 24, 25, 26, 27, 28, 29, 30, 31, 32, 33, 34, 35, 36, 37, 38, 39, 40, 41, 42, 43, 44, 45, 46, 47, 48, 49, 50, 51, 52, 53, 54, 55, 56, 57, 58, 59, 60, 61, 62, 63, 64, 65, 66, 67, 68, 69, 70, 71, 72, 73, 74, 75, 76, 77, 78, 79, 80, 81, 82, 83, 84, 85, 86, 87, 88, 89, 90, 91, 92, 93, 94, 95, 96, 97, 98, 99, 100, 101, 102, 103, 104, 105, 106, 107, 108, 109, 110, 111, 112, 113, 114, 115, 116, 117, 118, 119, 120, 121, 122, 123, 124, 125, 126, 127, 128, 129, 130, 131, 132, 133, 134, 135, 136, 137, 138, 139, 140, 141, 142, 143, 144, 145, 146, 147, 148, 149, 150, 151, 152, 153, 154, 155, 156, 157, 158] (by decide +kernel) (by decide +kernel)) (goodIn_sub (fun _ h => List.mem_cons_of_mem _ (List.mem_append_left _ (List.mem_append_right _ h))) (by decide +kernel))) (goodIn_sub (fun _ h => List.mem_cons_of_mem _ (List.mem_append_right _ h)) (by decide +kernel))
set_option maxRecDepth 20000 in
theorem gX6_capacity_X6_makeRoom : GoodIn wsX6_capacity (wsV RX6 215 RX6 yX6_makeRoom wsX6_makeRoom) := goodIn_app (goodIn_of _ (by decide +kernel)) ggX6_capacity_X6_makeRoom
set_option maxRecDepth 20000 in
theorem ggX6_bodies_X6_bodyCount : GoodIn wsX6_bodies wsX6_bodyCount := goodIn_r _ [5, 6, 7, 8, 9, 10, 11, 12, 13, 14, 15, 16, 17, 18, 19, 20, 21, 22, 23, 24, 25, 26, 27, 28, 29, 30, 31, 32, 33, 34, 35, 36, 37, 38, 39, 40, 41] (by decide +kernel) (by decide +kernel)
set_option maxRecDepth 20000 in
theorem gX6_bodies_X6_bodyCount : GoodIn wsX6_bodies (wsV RX6 270 RX6 yX6_bodyCount wsX6_bodyCount) := goodIn_app (goodIn_of _ (by decide +kernel)) ggX6_bodies_X6_bodyCount
set_option maxRecDepth 20000 in
theorem ggX6_read_X6_memberAt : GoodIn wsX6_read wsX6_memberAt := goodIn_ca (goodIn_r _ [10, 11, 12, 13, 14, 62, 63, 64, 65, 66, 67, 68, 69, 70, 71, 72, 73, 74, 75, 76, 77] (by decide +kernel) (by decide +kernel)) (goodIn_sub (fun _ h => List.mem_cons_of_mem _ (List.mem_append_left _ (List.mem_append_right _ h))) (by decide +kernel))
set_option maxRecDepth 20000 in
theorem gX6_read_X6_memberAt : GoodIn wsX6_read (wsV RX6 199 RX6 yX6_memberAt wsX6_memberAt) := goodIn_app (goodIn_of _ (by decide +kernel)) ggX6_read_X6_memberAt
set_option maxRecDepth 20000 in
theorem ggX6_copy_X6_memberAt : GoodIn wsX6_copy wsX6_memberAt := goodIn_ca (goodIn_r _ [9, 10, 11, 12, 13, 18, 19, 20, 21, 22, 23, 24, 25, 26, 27, 28, 29, 30, 31, 32, 33] (by decide +kernel) (by decide +kernel)) (goodIn_sub (fun _ h => List.mem_cons_of_mem _ (List.mem_append_right _ h)) (by decide +kernel))
set_option maxRecDepth 20000 in
theorem gX6_copy_X6_memberAt : GoodIn wsX6_copy (wsV RX6 199 RX6 yX6_memberAt wsX6_memberAt) := goodIn_app (goodIn_of _ (by decide +kernel)) ggX6_copy_X6_memberAt
set_option maxRecDepth 20000 in
theorem ggX6_vote_X6_memberAt : GoodIn wsX6_vote wsX6_memberAt := goodIn_ca (goodIn_r _ [9, 10, 11, 12, 13, 80, 81, 82, 83, 84, 85, 86, 87, 88, 89, 90, 91, 92, 93, 94, 95] (by decide +kernel) (by decide +kernel)) (goodIn_sub (fun _ h => List.mem_cons_of_mem _ (List.mem_append_left _ (List.mem_append_right _ h))) (by decide +kernel))
set_option maxRecDepth 20000 in
theorem gX6_vote_X6_memberAt : GoodIn wsX6_vote (wsV RX6 199 RX6 yX6_memberAt wsX6_memberAt) := goodIn_app (goodIn_of _ (by decide +kernel)) ggX6_vote_X6_memberAt
set_option maxRecDepth 20000 in
theorem ggX6_style_X6_workAt : GoodIn wsX6_style wsX6_workAt := goodIn_ca (goodIn_r _ [5, 6, 7, 8, 9, 24, 25, 26, 27, 28, 29, 30, 31, 32, 33, 34, 35, 36, 37, 38, 39] (by decide +kernel) (by decide +kernel)) (goodIn_sub (fun _ h => List.mem_cons_of_mem _ (List.mem_append_right _ h)) (by decide +kernel))
set_option maxRecDepth 20000 in
theorem gX6_style_X6_workAt : GoodIn wsX6_style (wsV RX6 219 RX6 yX6_workAt wsX6_workAt) := goodIn_app (goodIn_of _ (by decide +kernel)) ggX6_style_X6_workAt
set_option maxRecDepth 20000 in
theorem ggX6_review_X6_memberAt : GoodIn wsX6_review wsX6_memberAt := goodIn_ca (goodIn_r _ [10, 11, 12, 13, 14, 29, 30, 31, 32, 33, 34, 35, 36, 37, 38, 39, 40, 41, 42, 43, 44] (by decide +kernel) (by decide +kernel)) (goodIn_sub (fun _ h => List.mem_cons_of_mem _ (List.mem_append_right _ h)) (by decide +kernel))
set_option maxRecDepth 20000 in
theorem gX6_review_X6_memberAt : GoodIn wsX6_review (wsV RX6 199 RX6 yX6_memberAt wsX6_memberAt) := goodIn_app (goodIn_of _ (by decide +kernel)) ggX6_review_X6_memberAt
set_option maxRecDepth 20000 in
theorem ggX6_best_X6_memberAt : GoodIn wsX6_best wsX6_memberAt := goodIn_ca (goodIn_r _ [8, 9, 10, 11, 12, 51, 52, 53, 54, 55, 56, 57, 58, 59, 60, 61, 62, 63, 64, 65, 66] (by decide +kernel) (by decide +kernel)) (goodIn_sub (fun _ h => List.mem_cons_of_mem _ (List.mem_append_right _ h)) (by decide +kernel))
set_option maxRecDepth 20000 in
theorem gX6_best_X6_memberAt : GoodIn wsX6_best (wsV RX6 199 RX6 yX6_memberAt wsX6_memberAt) := goodIn_app (goodIn_of _ (by decide +kernel)) ggX6_best_X6_memberAt
set_option maxRecDepth 20000 in
theorem ggX6_points_X6_memberAt : GoodIn wsX6_points wsX6_memberAt := goodIn_ca (goodIn_r _ [5, 6, 7, 8, 9, 56, 57, 58, 59, 60, 61, 62, 63, 64, 65, 66, 67, 68, 69, 70, 71] (by decide +kernel) (by decide +kernel)) (goodIn_sub (fun _ h => List.mem_cons_of_mem _ (List.mem_append_left _ (List.mem_append_right _ h))) (by decide +kernel))
set_option maxRecDepth 20000 in
theorem gX6_points_X6_memberAt : GoodIn wsX6_points (wsV RX6 199 RX6 yX6_memberAt wsX6_memberAt) := goodIn_app (goodIn_of _ (by decide +kernel)) ggX6_points_X6_memberAt
set_option maxRecDepth 20000 in
theorem ggX6_belt_X6_memberAt : GoodIn wsX6_belt wsX6_memberAt := goodIn_ca (goodIn_r _ [5, 6, 7, 8, 9, 60, 61, 62, 63, 64, 65, 66, 67, 68, 69, 70, 71, 72, 73, 74, 75] (by decide +kernel) (by decide +kernel)) (goodIn_sub (fun _ h => List.mem_cons_of_mem _ (List.mem_append_left _ (List.mem_append_right _ h))) (by decide +kernel))