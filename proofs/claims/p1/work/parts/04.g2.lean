set_option maxRecDepth 20000 in
theorem gX6_belt_X6_memberAt : GoodIn wsX6_belt (wsV RX6 199 RX6 yX6_memberAt wsX6_memberAt) := goodIn_app (goodIn_of _ (by decide +kernel)) ggX6_belt_X6_memberAt
set_option maxRecDepth 20000 in
theorem ggX6_honour_X6_memberAt : GoodIn wsX6_honour wsX6_memberAt := goodIn_ca (goodIn_r _ [6, 7, 8, 9, 10, 15, 16, 17, 18, 19, 20, 21, 22, 23, 24, 25, 26, 27, 28, 29, 30] (by decide +kernel) (by decide +kernel)) (goodIn_sub (fun _ h => List.mem_cons_of_mem _ (List.mem_append_right _ h)) (by decide +kernel))
set_option maxRecDepth 20000 in
theorem gX6_honour_X6_memberAt : GoodIn wsX6_honour (wsV RX6 199 RX6 yX6_memberAt wsX6_memberAt) := goodIn_app (goodIn_of _ (by decide +kernel)) ggX6_honour_X6_memberAt
set_option maxRecDepth 20000 in
theorem ggX6_challenge_X6_memberAt : GoodIn wsX6_challenge wsX6_memberAt := goodIn_ca (goodIn_r _ [16, 17, 18, 19, 20, 48, 49, 50, 51, 52, 53, 54, 55, 56, 57, 58, 59, 60, 61, 62, 63] (by decide +kernel) (by decide +kernel)) (goodIn_sub (fun _ h => List.mem_cons_of_mem _ (List.mem_append_right _ h)) (by decide +kernel))
set_option maxRecDepth 20000 in
theorem gX6_challenge_X6_memberAt : GoodIn wsX6_challenge (wsV RX6 199 RX6 yX6_memberAt wsX6_memberAt) := goodIn_app (goodIn_of _ (by decide +kernel)) ggX6_challenge_X6_memberAt
set_option maxRecDepth 20000 in
theorem ggX6_give_X6_memberAt : GoodIn wsX6_give wsX6_memberAt := goodIn_ca (goodIn_r _ [11, 12, 13, 14, 15, 182, 183, 184, 185, 186, 187, 188, 189, 190, 191, 192, 193, 194, 195, 196, 197] (by decide +kernel) (by decide +kernel)) (goodIn_sub (fun _ h => List.mem_cons_of_mem _ (List.mem_append_left _ (List.mem_append_left _ (List.mem_append_right _ h)))) (by decide +kernel))
set_option maxRecDepth 20000 in
theorem gX6_give_X6_memberAt : GoodIn wsX6_give (wsV RX6 199 RX6 yX6_memberAt wsX6_memberAt) := goodIn_app (goodIn_of _ (by decide +kernel)) ggX6_give_X6_memberAt
set_option maxRecDepth 20000 in
theorem ggX6_answer_X6_memberAt : GoodIn wsX6_answer wsX6_memberAt := goodIn_ca (goodIn_r _ [9, 10, 11, 12, 13, 191, 192, 193, 194, 195, 196, 197, 198, 199, 200, 201, 202, 203, 204, 205, 206] (by decide +kernel) (by decide +kernel)) (goodIn_sub (fun _ h => List.mem_cons_of_mem _ (List.mem_append_left _ (List.mem_append_left _ (List.mem_append_right _ h)))) (by decide +kernel))
set_option maxRecDepth 20000 in
theorem gX6_answer_X6_memberAt : GoodIn wsX6_answer (wsV RX6 199 RX6 yX6_memberAt wsX6_memberAt) := goodIn_app (goodIn_of _ (by decide +kernel)) ggX6_answer_X6_memberAt
set_option maxRecDepth 20000 in
theorem ggX6_left_X6_workAt : GoodIn wsX6_left wsX6_workAt := goodIn_ca (goodIn_r _ [9, 10, 11, 12, 13, 31, 32, 33, 34, 35, 36, 37, 38, 39, 40, 41, 42, 43, 44, 45, 46] (by decide +kernel) (by decide +kernel)) (goodIn_sub (fun _ h => List.mem_cons_of_mem _ (List.mem_append_right _ h)) (by decide +kernel))
set_option maxRecDepth 20000 in
theorem gX6_left_X6_workAt : GoodIn wsX6_left (wsV RX6 219 RX6 yX6_workAt wsX6_workAt) := goodIn_app (goodIn_of _ (by decide +kernel)) ggX6_left_X6_workAt
set_option maxRecDepth 20000 in
theorem ggX6_meanSteps_X6_workAt : GoodIn wsX6_meanSteps wsX6_workAt := goodIn_ca (goodIn_r _ [10, 11, 12, 13, 14, 90, 91, 92, 93, 94, 95, 96, 97, 98, 99, 100, 101, 102, 103, 104, 105] (by decide +kernel) (by decide +kernel)) (goodIn_sub (fun _ h => List.mem_cons_of_mem _ (List.mem_append_left _ (List.mem_append_left _ (List.mem_append_right _ h)))) (by decide +kernel))
set_option maxRecDepth 20000 in
theorem gX6_meanSteps_X6_workAt : GoodIn wsX6_meanSteps (wsV RX6 219 RX6 yX6_workAt wsX6_workAt) := goodIn_app (goodIn_of _ (by decide +kernel)) ggX6_meanSteps_X6_workAt
set_option maxRecDepth 20000 in
theorem ggX6_isSound_X6_bodyCount : GoodIn wsX6_isSound wsX6_bodyCount := goodIn_r _ [6, 7, 8, 9, 171, 172, 173, 174, 175, 176, 177, 178, 179, 180, 181, 182, 183, 184, 185, 186, 187, 188, 189, 190, 191, 192, 193, 194, 195, 196, 197, 198, 199, 200, 201, 202, 203] (by decide +kernel) (by decide +kernel)
set_option maxRecDepth 20000 in
theorem gX6_isSound_X6_bodyCount : GoodIn wsX6_isSound (wsV RX6 270 RX6 yX6_bodyCount wsX6_bodyCount) := goodIn_app (goodIn_of _ (by decide +kernel)) ggX6_isSound_X6_bodyCount
set_option maxRecDepth 20000 in
theorem ggX6_isSound_X6_areBodiesSound : GoodIn wsX6_isSound wsX6_areBodiesSound := goodIn_ca (goodIn_ca (goodIn_r _ [13, 7, 8, 9, 14, 15, 16, 17, 18, 19, 20, 21, 22, 23, 24, 25, 26, 27, 28, 29, 5, 30, 31, 32, 33, 34, 35, 36, 37, 38, 39, 40, 41, 42, 43, 44, 45, 46, 47, 48, 49, 50, 51, 52, 53, 54, 55, 56, 57, 58, 59, 60, 61, 62, 63, 64, 65, 66, 67, 68, 69, 70, 71, 72, 73, 74, 75, 76, 77, 78, 79, 80, 81, 82, 83, 84, 85, 86, 87, 88, 89, 90, 91, 92, 93, 94, 95, 96, 97, 98, 99, 171, 172, 173, 174, 175, 176, 177, 178, 179, 180, 181, 182, 183, 184, 185, 186, 187, 188, 189, 190, 191, 192, 193, 194, 195, 196, 197, 198, 199, 200, 201, 202, 203, 204, 205, 206, 207, 208, 209, 210, 211, 212, 213, 214, 215, 216, 217, 218, 219, 220, 221, 222, 223] (by decide +kernel) (by decide +kernel)) (goodIn_sub (fun _ h => List.mem_cons_of_mem _ (List.mem_append_left _ (List.mem_append_right _ h))) (by decide +kernel))) (goodIn_sub (fun _ h => List.mem_cons_of_mem _ (List.mem_append_right _ h)) (by decide +kernel))
set_option maxRecDepth 20000 in
theorem gX6_isSound_X6_areBodiesSound : GoodIn wsX6_isSound (wsV RX6 395 RX6 yX6_areBodiesSound wsX6_areBodiesSound) := goodIn_app (goodIn_of _ (by decide +kernel)) ggX6_isSound_X6_areBodiesSound
set_option maxRecDepth 20000 in
theorem ggX6_isSound_X6_areBeltsSound : GoodIn wsX6_isSound wsX6_areBeltsSound := goodIn_ca (goodIn_r _ [103, 7, 8, 104, 105, 106, 107, 108, 109, 110, 111, 112, 113, 114, 115, 116, 5, 117, 118, 119, 120, 121, 122, 123, 32, 124, 125, 126, 127, 128, 129, 130, 131, 132, 133, 134, 135, 136, 137, 138, 139, 140, 141, 142, 143, 144, 145, 146, 147, 148, 149, 150, 151, 152, 153, 31, 154, 155, 156, 157, 158, 159, 160, 171, 172, 173, 174, 175, 176, 177, 178, 179, 180, 181, 182, 183, 184, 185, 186, 187, 188, 189, 190, 191, 192, 193, 194, 195, 196, 197, 198, 199, 200, 201, 202, 203, 207, 208, 209] (by decide +kernel) (by decide +kernel)) (goodIn_sub (fun _ h => List.mem_cons_of_mem _ (List.mem_append_left _ (List.mem_append_right _ h))) (by decide +kernel))
set_option maxRecDepth 20000 in
theorem gX6_isSound_X6_areBeltsSound : GoodIn wsX6_isSound (wsV RX6 398 RX6 yX6_areBeltsSound wsX6_areBeltsSound) := goodIn_app (goodIn_of _ (by decide +kernel)) ggX6_isSound_X6_areBeltsSound
set_option maxRecDepth 20000 in
theorem ggX6_isSound_X6_areChallengesSound : GoodIn wsX6_isSound wsX6_areChallengesSound := goodIn_ca (goodIn_r _ [164, 7, 8, 16, 165, 166, 167, 168, 169, 5, 170, 171, 172, 173, 174, 175, 176, 177, 178, 179, 180, 181, 182, 183, 184, 185, 186, 187, 188, 189, 190, 191, 192, 193, 194, 195, 196, 197, 198, 199, 200, 201, 202, 203] (by decide +kernel) (by decide +kernel)) (goodIn_sub (fun _ h => List.mem_cons_of_mem _ (List.mem_append_left _ (List.mem_append_right _ h))) (by decide +kernel))
set_option maxRecDepth 20000 in
theorem gX6_isSound_X6_areChallengesSound : GoodIn wsX6_isSound (wsV RX6 401 RX6 yX6_areChallengesSound wsX6_areChallengesSound) := goodIn_app (goodIn_of _ (by decide +kernel)) ggX6_isSound_X6_areChallengesSound
set_option maxRecDepth 20000 in
theorem ggX6_stepsDoneBy_X1_execute : GoodIn wsX6_stepsDoneBy wsX1_execute := goodIn_ca (goodIn_ca (goodIn_r _ [7, 8, 9, 10, 11, 12, 13, 14, 15, 16, 17, 18, 6, 19, 20, 21, 22, 23, 24, 25, 26, 27, 28, 29, 30, 31, 32, 33, 34, 35, 36, 37, 38, 39, 40, 41, 42, 43, 44, 45, 46, 47, 48, 49, 50, 51, 52, 53, 54, 55, 56, 57, 58, 59, 60, 61, 62, 79, 80, 81, 82, 83, 84, 85, 86, 87, 88, 89, 90, 91, 92, 93, 94, 95] (by decide +kernel) (by decide +kernel)) (goodIn_sub (fun _ h => List.mem_cons_of_mem _ (List.mem_append_left _ (List.mem_append_right _ h))) (by decide +kernel))) (goodIn_sub (fun _ h => List.mem_cons_of_mem _ (List.mem_append_right _ h)) (by decide +kernel))
set_option maxRecDepth 20000 in
theorem gX6_stepsDoneBy_X1_execute : GoodIn wsX6_stepsDoneBy (wsV RX6 172 RX1 yX1_execute wsX1_execute) := goodIn_app (goodIn_of _ (by decide +kernel)) ggX6_stepsDoneBy_X1_execute
set_option maxRecDepth 20000 in
theorem ggX6_stepsTold_X6_stepsDoneBy : GoodIn wsX6_stepsTold wsX6_stepsDoneBy := goodIn_ca (goodIn_ca (goodIn_r _ [12, 13, 14, 15, 16, 17, 18, 19, 20, 21, 22, 23, 24, 25, 26, 27, 28, 29, 30, 31, 32, 33, 34, 35, 36, 37, 38, 39, 40, 41, 42, 43, 44, 45, 46, 47, 48, 49, 50, 51, 52, 53, 54, 55, 56, 57, 58, 59, 60, 61, 62, 63, 64, 65, 66, 67, 68, 69, 70, 71, 72, 73, 74, 92, 93, 94, 95, 96, 97, 98, 99, 100, 101, 102, 103, 104, 105, 106, 107, 111, 112, 113, 114, 115, 116, 117, 118, 119, 120, 121, 122, 123, 124, 125, 126, 127] (by decide +kernel) (by decide +kernel)) (goodIn_sub (fun _ h => List.mem_cons_of_mem _ (List.mem_append_left _ (List.mem_append_right _ h))) (by decide +kernel))) (goodIn_sub (fun _ h => List.mem_cons_of_mem _ (List.mem_append_right _ h)) (by decide +kernel))
set_option maxRecDepth 20000 in
theorem gX6_stepsTold_X6_stepsDoneBy : GoodIn wsX6_stepsTold (wsV RX6 428 RX6 yX6_stepsDoneBy wsX6_stepsDoneBy) := goodIn_app (goodIn_of _ (by decide +kernel)) ggX6_stepsTold_X6_stepsDoneBy
set_option maxRecDepth 20000 in
theorem ggX6_makeRoom_X6_bodyCount : GoodIn wsX6_makeRoom wsX6_bodyCount := goodIn_r _ [7, 8, 2, 9, 100, 101, 102, 103, 104, 105, 106, 107, 108, 109, 110, 111, 112, 113, 114, 115, 116, 117, 118, 119, 120, 121, 122, 123, 124, 125, 126, 127, 128, 129, 130, 131, 132] (by decide +kernel) (by decide +kernel)
set_option maxRecDepth 20000 in
theorem gX6_makeRoom_X6_bodyCount : GoodIn wsX6_makeRoom (wsV RX6 270 RX6 yX6_bodyCount wsX6_bodyCount) := goodIn_app (goodIn_of _ (by decide +kernel)) ggX6_makeRoom_X6_bodyCount
set_option maxRecDepth 20000 in
theorem ggX7_isLetter_X7_isOneOf : GoodIn wsX7_isLetter wsX7_isOneOf := goodIn_r _ [4] (by decide +kernel) (by decide +kernel)
set_option maxRecDepth 20000 in
theorem gX7_isLetter_X7_isOneOf : GoodIn wsX7_isLetter (va_wsS RX7 153 yX7_isOneOf wsX7_isOneOf) := goodIn_app (goodIn_of _ (by decide +kernel)) ggX7_isLetter_X7_isOneOf
set_option maxRecDepth 20000 in
theorem ggX7_step_X7_isLetter : GoodIn wsX7_step wsX7_isLetter := goodIn_r _ [8, 9, 10, 7, 11] (by decide +kernel) (by decide +kernel)
set_option maxRecDepth 20000 in
theorem gX7_step_X7_isLetter : GoodIn wsX7_step (va_wsS RX7 157 yX7_isLetter wsX7_isLetter) := goodIn_app (goodIn_of _ (by decide +kernel)) ggX7_step_X7_isLetter
set_option maxRecDepth 20000 in
theorem ggX7_step_X7_in : GoodIn wsX7_step wsX7_in := goodIn_r _ [14] (by decide +kernel) (by decide +kernel)
set_option maxRecDepth 20000 in
theorem gX7_step_X7_in : GoodIn wsX7_step (va_wsS RX7 161 yX7_in wsX7_in) := goodIn_app (goodIn_of _ (by decide +kernel)) ggX7_step_X7_in
set_option maxRecDepth 20000 in
theorem ggX7_step_X7_fails : GoodIn wsX7_step wsX7_fails := goodIn_r _ [18, 19, 24, 25, 26, 27, 28, 29, 30, 31, 32, 33, 34, 35, 36, 37, 38, 39, 40, 41, 42, 43, 44, 45, 46, 47, 48, 49, 50, 51, 52, 53, 54, 55, 56, 57, 58, 59, 60, 61, 62, 63, 64, 65, 66, 67, 68, 69] (by decide +kernel) (by decide +kernel)
set_option maxRecDepth 20000 in
theorem gX7_step_X7_fails : GoodIn wsX7_step (wsV RX7 165 RX7 yX7_fails wsX7_fails) := goodIn_app (goodIn_of _ (by decide +kernel)) ggX7_step_X7_fails
set_option maxRecDepth 20000 in
theorem ggX7_step_X7_tells : GoodIn wsX7_step wsX7_tells := goodIn_r _ [23, 19, 24, 25, 26, 27, 28, 29, 30, 31, 32, 33, 34, 35, 36, 37, 38, 39, 40, 41, 42, 43, 44, 45, 46, 47, 48, 49, 50, 51, 52, 53, 54, 55, 56, 57, 58, 59, 60, 61, 62, 63, 64, 65, 66, 67, 68, 69] (by decide +kernel) (by decide +kernel)
set_option maxRecDepth 20000 in
theorem gX7_step_X7_tells : GoodIn wsX7_step (wsV RX7 169 RX7 yX7_tells wsX7_tells) := goodIn_app (goodIn_of _ (by decide +kernel)) ggX7_step_X7_tells
set_option maxRecDepth 20000 in
theorem ggX7_wipe_X7_tells : GoodIn wsX7_wipe wsX7_tells := goodIn_r _ [7, 8, 9, 10, 11, 12, 13, 14, 15, 16, 17, 18, 19, 20, 21, 22, 23, 24, 25, 26, 27, 28, 29, 30, 31, 32, 33, 34, 35, 36, 37, 38, 39, 40, 41, 42, 43, 44, 45, 46, 47, 48, 49, 50, 51, 52, 53, 54] (by decide +kernel) (by decide +kernel)
set_option maxRecDepth 20000 in
theorem gX7_wipe_X7_tells : GoodIn wsX7_wipe (wsV RX7 169 RX7 yX7_tells wsX7_tells) := goodIn_app (goodIn_of _ (by decide +kernel)) ggX7_wipe_X7_tells
set_option maxRecDepth 20000 in
theorem ggX7_number_X7_in : GoodIn wsX7_number wsX7_in := goodIn_r _ [8] (by decide +kernel) (by decide +kernel)