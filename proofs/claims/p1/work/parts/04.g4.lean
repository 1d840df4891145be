set_option maxRecDepth 20000 in
theorem gX7_depth_X7_fails : GoodIn wsX7_depth (wsV RX7 165 RX7 yX7_fails wsX7_fails) := goodIn_app (goodIn_of _ (by decide +kernel)) ggX7_depth_X7_fails
set_option maxRecDepth 20000 in
theorem ggX7_isMember_X7_in : GoodIn wsX7_isMember wsX7_in := goodIn_r _ [5] (by decide +kernel) (by decide +kernel)
set_option maxRecDepth 20000 in
theorem gX7_isMember_X7_in : GoodIn wsX7_isMember (va_wsS RX7 161 yX7_in wsX7_in) := goodIn_app (goodIn_of _ (by decide +kernel)) ggX7_isMember_X7_in
set_option maxRecDepth 20000 in
theorem ggX7_isWork_X7_in : GoodIn wsX7_isWork wsX7_in := goodIn_r _ [5] (by decide +kernel) (by decide +kernel)
set_option maxRecDepth 20000 in
theorem gX7_isWork_X7_in : GoodIn wsX7_isWork (va_wsS RX7 161 yX7_in wsX7_in) := goodIn_app (goodIn_of _ (by decide +kernel)) ggX7_isWork_X7_in
set_option maxRecDepth 20000 in
theorem ggX7_member_X7_tells : GoodIn wsX7_member wsX7_tells := goodIn_r _ [12, 8, 13, 14, 15, 16, 17, 18, 19, 20, 21, 22, 23, 24, 25, 26, 27, 28, 29, 30, 31, 32, 33, 34, 35, 36, 37, 38, 39, 40, 41, 42, 43, 44, 45, 46, 47, 48, 49, 50, 51, 52, 53, 54, 55, 56, 57, 58] (by decide +kernel) (by decide +kernel)
set_option maxRecDepth 20000 in
theorem gX7_member_X7_tells : GoodIn wsX7_member (wsV RX7 169 RX7 yX7_tells wsX7_tells) := goodIn_app (goodIn_of _ (by decide +kernel)) ggX7_member_X7_tells
set_option maxRecDepth 20000 in
theorem ggX7_submit_X7_isMember : GoodIn wsX7_submit wsX7_isMember := goodIn_r _ [12, 13, 14, 15, 11, 16, 112, 113, 114, 115, 116, 117, 118, 119, 120, 121, 122, 123, 124, 125, 126, 127, 128, 129, 130, 131, 132, 133, 134, 135, 136, 137, 138, 139, 140, 141, 142, 143, 144, 145, 146, 147, 148, 149, 150, 151, 152, 153, 154, 155, 156, 157] (by decide +kernel) (by decide +kernel)
set_option maxRecDepth 20000 in
theorem gX7_submit_X7_isMember : GoodIn wsX7_submit (wsV RX7 214 RX7 yX7_isMember wsX7_isMember) := goodIn_app (goodIn_of _ (by decide +kernel)) ggX7_submit_X7_isMember
set_option maxRecDepth 20000 in
theorem ggX7_submit_X7_fails : GoodIn wsX7_submit wsX7_fails := goodIn_r _ [25, 26, 112, 113, 114, 115, 116, 117, 118, 119, 120, 121, 122, 123, 124, 125, 126, 127, 128, 129, 130, 131, 132, 133, 134, 135, 136, 137, 138, 139, 140, 141, 142, 143, 144, 145, 146, 147, 148, 149, 150, 151, 152, 153, 154, 155, 156, 157] (by decide +kernel) (by decide +kernel)
set_option maxRecDepth 20000 in
theorem gX7_submit_X7_fails : GoodIn wsX7_submit (wsV RX7 165 RX7 yX7_fails wsX7_fails) := goodIn_app (goodIn_of _ (by decide +kernel)) ggX7_submit_X7_fails
set_option maxRecDepth 20000 in
theorem ggX7_works_X7_tells : GoodIn wsX7_works wsX7_tells := goodIn_r _ [6, 7, 8, 9, 10, 11, 12, 13, 14, 15, 16, 17, 18, 19, 20, 21, 22, 23, 24, 25, 26, 27, 28, 29, 30, 31, 32, 33, 34, 35, 36, 37, 38, 39, 40, 41, 42, 43, 44, 45, 46, 47, 48, 49, 50, 51, 52, 53] (by decide +kernel) (by decide +kernel)
set_option maxRecDepth 20000 in
theorem gX7_works_X7_tells : GoodIn wsX7_works (wsV RX7 169 RX7 yX7_tells wsX7_tells) := goodIn_app (goodIn_of _ (by decide +kernel)) ggX7_works_X7_tells
set_option maxRecDepth 20000 in
theorem ggX7_of_X7_isWork : GoodIn wsX7_of wsX7_isWork := goodIn_r _ [8, 9, 10, 11, 7, 12, 32, 33, 34, 35, 36, 37, 38, 39, 40, 41, 42, 43, 44, 45, 46, 47, 48, 49, 50, 51, 52, 53, 54, 55, 56, 57, 58, 59, 60, 61, 62, 63, 64, 65, 66, 67, 68, 69, 70, 71, 72, 73, 74, 75, 76, 77] (by decide +kernel) (by decide +kernel)
set_option maxRecDepth 20000 in
theorem gX7_of_X7_isWork : GoodIn wsX7_of (wsV RX7 227 RX7 yX7_isWork wsX7_isWork) := goodIn_app (goodIn_of _ (by decide +kernel)) ggX7_of_X7_isWork
set_option maxRecDepth 20000 in
theorem ggX7_of_X7_fails : GoodIn wsX7_of wsX7_fails := goodIn_r _ [16, 17, 32, 33, 34, 35, 36, 37, 38, 39, 40, 41, 42, 43, 44, 45, 46, 47, 48, 49, 50, 51, 52, 53, 54, 55, 56, 57, 58, 59, 60, 61, 62, 63, 64, 65, 66, 67, 68, 69, 70, 71, 72, 73, 74, 75, 76, 77] (by decide +kernel) (by decide +kernel)
set_option maxRecDepth 20000 in
theorem gX7_of_X7_fails : GoodIn wsX7_of (wsV RX7 165 RX7 yX7_fails wsX7_fails) := goodIn_app (goodIn_of _ (by decide +kernel)) ggX7_of_X7_fails
set_option maxRecDepth 20000 in
theorem ggX7_state_X7_isWork : GoodIn wsX7_state wsX7_isWork := goodIn_r _ [7, 8, 9, 10, 6, 11, 12, 13, 14, 15, 16, 17, 18, 19, 20, 21, 22, 23, 24, 25, 26, 27, 28, 29, 30, 31, 32, 33, 34, 35, 36, 37, 38, 39, 40, 41, 42, 43, 44, 45, 46, 47, 48, 49, 50, 51, 52, 53, 54, 55, 56, 57] (by decide +kernel) (by decide +kernel)
set_option maxRecDepth 20000 in
theorem gX7_state_X7_isWork : GoodIn wsX7_state (wsV RX7 227 RX7 yX7_isWork wsX7_isWork) := goodIn_app (goodIn_of _ (by decide +kernel)) ggX7_state_X7_isWork
set_option maxRecDepth 20000 in
theorem ggX7_sum_X7_isWork : GoodIn wsX7_sum wsX7_isWork := goodIn_r _ [7, 8, 9, 10, 6, 11, 12, 13, 14, 15, 16, 17, 18, 19, 20, 21, 22, 23, 24, 25, 26, 27, 28, 29, 30, 31, 32, 33, 34, 35, 36, 37, 38, 39, 40, 41, 42, 43, 44, 45, 46, 47, 48, 49, 50, 51, 52, 53, 54, 55, 56, 57] (by decide +kernel) (by decide +kernel)
set_option maxRecDepth 20000 in
theorem gX7_sum_X7_isWork : GoodIn wsX7_sum (wsV RX7 227 RX7 yX7_isWork wsX7_isWork) := goodIn_app (goodIn_of _ (by decide +kernel)) ggX7_sum_X7_isWork
set_option maxRecDepth 20000 in
theorem ggX7_stepsOf_X7_runs : GoodIn wsX7_stepsOf wsX7_runs := goodIn_ca (goodIn_ca (goodIn_r _ [9, 10, 11, 4, 12, 13, 14, 15, 16, 17, 18, 19, 20, 21, 22, 8, 23, 24, 25, 26, 27, 28, 29, 30, 31, 32, 33, 34, 35, 36, 37, 38, 39, 40, 41, 42, 43, 44, 45, 46, 47, 48, 49, 50, 51, 52, 53, 54, 55, 56, 57, 58, 59, 60, 61, 62, 63, 64, 65, 66, 67, 68, 69, 70, 71, 72, 73, 74, 75, 76, 77, 78, 79, 80, 81, 82, 83] (by decide +kernel) (by decide +kernel)) (goodIn_sub (fun _ h => List.mem_cons_of_mem _ (List.mem_append_left _ (List.mem_append_right _ h))) (by decide +kernel))) (goodIn_sub (fun _ h => List.mem_cons_of_mem _ (List.mem_append_right _ h)) (by decide +kernel))
set_option maxRecDepth 20000 in
theorem gX7_stepsOf_X7_runs : GoodIn wsX7_stepsOf (wsV RX7 200 RX7 yX7_runs wsX7_runs) := goodIn_app (goodIn_of _ (by decide +kernel)) ggX7_stepsOf_X7_runs
set_option maxRecDepth 20000 in
theorem ggX7_steps_X7_isWork : GoodIn wsX7_steps wsX7_isWork := goodIn_r _ [6, 7, 8, 9, 5, 10, 66, 67, 68, 69, 70, 71, 72, 73, 74, 75, 76, 77, 78, 79, 80, 81, 82, 83, 84, 85, 86, 87, 88, 89, 90, 91, 92, 93, 94, 95, 96, 97, 98, 99, 100, 101, 102, 103, 104, 105, 106, 107, 108, 109, 110, 111] (by decide +kernel) (by decide +kernel)
set_option maxRecDepth 20000 in
theorem gX7_steps_X7_isWork : GoodIn wsX7_steps (wsV RX7 227 RX7 yX7_isWork wsX7_isWork) := goodIn_app (goodIn_of _ (by decide +kernel)) ggX7_steps_X7_isWork
set_option maxRecDepth 20000 in
theorem ggX7_steps_X7_isTest : GoodIn wsX7_steps wsX7_isTest := goodIn_ca (goodIn_r _ [14, 15, 16, 17, 18, 5, 19, 20, 8, 9, 10, 66, 67, 68, 69, 70, 71, 72, 73, 74, 75, 76, 77, 78, 79, 80, 81, 82, 83, 84, 85, 86, 87, 88, 89, 90, 91, 92, 93, 94, 95, 96, 97, 98, 99, 100, 101, 102, 103, 104, 105, 106, 107, 108, 109, 110, 111] (by decide +kernel) (by decide +kernel)) (goodIn_sub (fun _ h => List.mem_cons_of_mem _ (List.mem_append_left _ (List.mem_append_right _ h))) (by decide +kernel))
set_option maxRecDepth 20000 in
theorem gX7_steps_X7_isTest : GoodIn wsX7_steps (wsV RX7 208 RX7 yX7_isTest wsX7_isTest) := goodIn_app (goodIn_of _ (by decide +kernel)) ggX7_steps_X7_isTest
set_option maxRecDepth 20000 in
theorem ggX7_steps_X7_fails : GoodIn wsX7_steps wsX7_fails := goodIn_r _ [24, 25, 66, 67, 68, 69, 70, 71, 72, 73, 74, 75, 76, 77, 78, 79, 80, 81, 82, 83, 84, 85, 86, 87, 88, 89, 90, 91, 92, 93, 94, 95, 96, 97, 98, 99, 100, 101, 102, 103, 104, 105, 106, 107, 108, 109, 110, 111] (by decide +kernel) (by decide +kernel)
set_option maxRecDepth 20000 in
theorem gX7_steps_X7_fails : GoodIn wsX7_steps (wsV RX7 165 RX7 yX7_fails wsX7_fails) := goodIn_app (goodIn_of _ (by decide +kernel)) ggX7_steps_X7_fails
set_option maxRecDepth 20000 in
theorem ggX7_steps_X7_stepsOf : GoodIn wsX7_steps wsX7_stepsOf := goodIn_ca (goodIn_ca (goodIn_r _ [29, 30, 31, 1, 32, 33, 34, 35, 5, 36, 37, 38, 39, 40, 41, 42, 43, 44, 45, 46, 47, 48, 49, 50, 51, 52, 53, 54, 55, 56, 57, 8, 9, 10, 58, 59, 60, 61, 66, 67, 68, 69, 70, 71, 72, 73, 74, 75, 76, 77, 78, 79, 80, 81, 82, 83, 84, 85, 86, 87, 88, 89, 90, 91, 92, 93, 94, 95, 96, 97, 98, 99, 100, 101, 102, 103, 104, 105, 106, 107, 108, 109, 110, 111] (by decide +kernel) (by decide +kernel)) (goodIn_sub (fun _ h => List.mem_cons_of_mem _ (List.mem_append_left _ (List.mem_append_right _ h))) (by decide +kernel))) (goodIn_sub (fun _ h => List.mem_cons_of_mem _ (List.mem_append_right _ h)) (by decide +kernel))
set_option maxRecDepth 20000 in
theorem gX7_steps_X7_stepsOf : GoodIn wsX7_steps (wsV RX7 236 RX7 yX7_stepsOf wsX7_stepsOf) := goodIn_app (goodIn_of _ (by decide +kernel)) ggX7_steps_X7_stepsOf
set_option maxRecDepth 20000 in
theorem ggX7_steps_X7_tells : GoodIn wsX7_steps wsX7_tells := goodIn_r _ [65, 25, 66, 67, 68, 69, 70, 71, 72, 73, 74, 75, 76, 77, 78, 79, 80, 81, 82, 83, 84, 85, 86, 87, 88, 89, 90, 91, 92, 93, 94, 95, 96, 97, 98, 99, 100, 101, 102, 103, 104, 105, 106, 107, 108, 109, 110, 111] (by decide +kernel) (by decide +kernel)
set_option maxRecDepth 20000 in
theorem gX7_steps_X7_tells : GoodIn wsX7_steps (wsV RX7 169 RX7 yX7_tells wsX7_tells) := goodIn_app (goodIn_of _ (by decide +kernel)) ggX7_steps_X7_tells
set_option maxRecDepth 20000 in
theorem ggX7_hasBody_X7_isWork : GoodIn wsX7_hasBody wsX7_isWork := goodIn_r _ [7, 8, 9, 10, 6, 11, 12, 13, 14, 15, 16, 17, 18, 19, 20, 21, 22, 23, 24, 25, 26, 27, 28, 29, 30, 31, 32, 33, 34, 35, 36, 37, 38, 39, 40, 41, 42, 43, 44, 45, 46, 47, 48, 49, 50, 51, 52, 53, 54, 55, 56, 57] (by decide +kernel) (by decide +kernel)
set_option maxRecDepth 20000 in
theorem gX7_hasBody_X7_isWork : GoodIn wsX7_hasBody (wsV RX7 227 RX7 yX7_isWork wsX7_isWork) := goodIn_app (goodIn_of _ (by decide +kernel)) ggX7_hasBody_X7_isWork
set_option maxRecDepth 20000 in
theorem ggX7_letter_X7_isWork : GoodIn wsX7_letter wsX7_isWork := goodIn_r _ [9, 10, 11, 12, 8, 13, 14, 15, 16, 17, 18, 19, 20, 21, 22, 23, 24, 25, 26, 27, 28, 29, 30, 31, 32, 33, 34, 35, 36, 37, 38, 39, 40, 41, 42, 43, 44, 45, 46, 47, 48, 49, 50, 51, 52, 53, 54, 55, 56, 57, 58, 59] (by decide +kernel) (by decide +kernel)
set_option maxRecDepth 20000 in
theorem gX7_letter_X7_isWork : GoodIn wsX7_letter (wsV RX7 227 RX7 yX7_isWork wsX7_isWork) := goodIn_app (goodIn_of _ (by decide +kernel)) ggX7_letter_X7_isWork
set_option maxRecDepth 20000 in
theorem ggX7_makesRoom_X7_bodyCount : GoodIn wsX7_makesRoom wsX7_bodyCount := goodIn_ca (goodIn_r _ [8, 2, 3, 69, 70, 71, 72, 73, 74, 75, 76, 77, 78, 79, 80, 81, 82, 83, 84, 85, 86, 87, 88, 89, 90, 91, 92, 93, 94, 95, 96, 97, 98, 99, 100, 101, 102, 103, 104, 105, 106, 107, 108, 109, 110, 111, 112, 113, 114] (by decide +kernel) (by decide +kernel)) (goodIn_sub (fun _ h => List.mem_cons_of_mem _ (List.mem_append_left _ (List.mem_append_right _ h))) (by decide +kernel))
set_option maxRecDepth 20000 in
theorem gX7_makesRoom_X7_bodyCount : GoodIn wsX7_makesRoom (wsV RX7 243 RX7 yX7_bodyCount wsX7_bodyCount) := goodIn_app (goodIn_of _ (by decide +kernel)) ggX7_makesRoom_X7_bodyCount
set_option maxRecDepth 20000 in
theorem ggX7_drop_X7_isWork : GoodIn wsX7_drop wsX7_isWork := goodIn_r _ [6, 7, 8, 9, 5, 10, 72, 73, 74, 75, 76, 77, 78, 79, 80, 81, 82, 83, 84, 85, 86, 87, 88, 89, 90, 91, 92, 93, 94, 95, 96, 97, 98, 99, 100, 101, 102, 103, 104, 105, 106, 107, 108, 109, 110, 111, 112, 113, 114, 115, 116, 117] (by decide +kernel) (by decide +kernel)