def ws_X1_pairBrackets : List Cond := .code yX1_pairBrackets cX1_pairBrackets 4 none :: lw_all
def rm_X1_pairBrackets : Room := { frames := 0, cells := 0, slots := 0, locals := 0 }
def ws_X1_neededBy : List Cond := .code yX1_neededBy cX1_neededBy 1 (some .int) :: lw_all
def rm_X1_neededBy : Room := { frames := 0, cells := 0, slots := 0, locals := 0 }
def ws_X1_numberUnder : List Cond := .code yX1_numberUnder cX1_numberUnder 3 (some .int) :: lw_all
def rm_X1_numberUnder : Room := { frames := 0, cells := 0, slots := 0, locals := 0 }
def ws_X1_errorOf : List Cond := .code yX1_errorOf cX1_errorOf 4 (some .char) :: lw_all
def rm_X1_errorOf : Room := { frames := 1, cells := 0, slots := 0, locals := 22 }
def ws_X1_replace : List Cond := .code yX1_replace cX1_replace 3 none :: lw_all
def rm_X1_replace : Room := { frames := 0, cells := 0, slots := 0, locals := 0 }
def ws_X1_nextInput : List Cond := .code yX1_nextInput cX1_nextInput 2 (some .int) :: lw_all
def rm_X1_nextInput : Room := { frames := 0, cells := 0, slots := 0, locals := 0 }
def ws_X1_pop : List Cond := .code yX1_pop cX1_pop 1 none :: lw_all
def rm_X1_pop : Room := { frames := 0, cells := 0, slots := 0, locals := 0 }
def ws_X1_write : List Cond := .code yX1_write cX1_write 2 none :: lw_all
def rm_X1_write : Room := { frames := 0, cells := 0, slots := 0, locals := 0 }
def ws_X1_perform : List Cond := .code yX1_perform cX1_perform 7 none :: lw_all
def rm_X1_perform : Room := { frames := 1, cells := 0, slots := 0, locals := 22 }
def ws_X1_isAsExpected : List Cond := .code yX1_isAsExpected cX1_isAsExpected 3 (some .boolean) :: lw_all
def rm_X1_isAsExpected : Room := { frames := 0, cells := 0, slots := 0, locals := 0 }
def ws_X1_execute : List Cond := .code yX1_execute cX1_execute 6 (some .char) :: lw_all
def rm_X1_execute : Room := { frames := 2, cells := 0, slots := 0, locals := 48 }
def ws_X2_placeOfCopy : List Cond := .code yX2_placeOfCopy cX2_placeOfCopy 3 (some .int) :: lw_all
def rm_X2_placeOfCopy : Room := { frames := 0, cells := 0, slots := 0, locals := 0 }
def ws_X3_take : List Cond := .code yX3_take cX3_take 3 none :: lw_all
def rm_X3_take : Room := { frames := 0, cells := 0, slots := 0, locals := 0 }
def ws_X2_keepCopy : List Cond := .code yX2_keepCopy cX2_keepCopy 6 none :: lw_all
def rm_X2_keepCopy : Room := { frames := 1, cells := 0, slots := 0, locals := 22 }
def ws_X3_append : List Cond := .code yX3_append cX3_append 3 none :: lw_all
def rm_X3_append : Room := { frames := 0, cells := 0, slots := 0, locals := 0 }
def ws_X3_erase : List Cond := .code yX3_erase cX3_erase 1 none :: lw_all
def rm_X3_erase : Room := { frames := 0, cells := 0, slots := 0, locals := 0 }
def ws_X3_isWhole : List Cond := .code yX3_isWhole cX3_isWhole 3 (some .boolean) :: lw_all
def rm_X3_isWhole : Room := { frames := 0, cells := 0, slots := 0, locals := 0 }
def ws_X3_sumOfAll : List Cond := .code yX3_sumOfAll cX3_sumOfAll 4 (some .long) :: lw_all
def rm_X3_sumOfAll : Room := { frames := 0, cells := 0, slots := 0, locals := 0 }
def ws_X4_addInput : List Cond := .code yX4_addInput cX4_addInput 2 (some .int) :: lw_all
def rm_X4_addInput : Room := { frames := 0, cells := 0, slots := 0, locals := 0 }
def ws_X4_addExpected : List Cond := .code yX4_addExpected cX4_addExpected 2 (some .int) :: lw_all
def rm_X4_addExpected : Room := { frames := 0, cells := 0, slots := 0, locals := 0 }
def ws_X4_erase : List Cond := .code yX4_erase cX4_erase 1 none :: lw_all
def rm_X4_erase : Room := { frames := 0, cells := 0, slots := 0, locals := 0 }
def ws_X4_take : List Cond := .code yX4_take cX4_take 3 none :: lw_all
def rm_X4_take : Room := { frames := 0, cells := 0, slots := 0, locals := 0 }
def ws_X5_regain : List Cond := .code yX5_regain cX5_regain 2 none :: lw_all
def rm_X5_regain : Room := { frames := 1, cells := 0, slots := 0, locals := 22 }
def ws_X5_begin : List Cond := .code yX5_begin cX5_begin 4 none :: lw_all
def rm_X5_begin : Room := { frames := 2, cells := 0, slots := 0, locals := 43 }
def ws_X5_isCounted : List Cond := .code yX5_isCounted cX5_isCounted 1 (some .boolean) :: lw_all
def rm_X5_isCounted : Room := { frames := 0, cells := 0, slots := 0, locals := 0 }
def ws_X5_takeVote : List Cond := .code yX5_takeVote cX5_takeVote 4 none :: lw_all
def rm_X5_takeVote : Room := { frames := 0, cells := 0, slots := 0, locals := 0 }
def ws_X5_areSumsOfVotes : List Cond := .code yX5_areSumsOfVotes cX5_areSumsOfVotes 4 (some .boolean) :: lw_all
def rm_X5_areSumsOfVotes : Room := { frames := 0, cells := 0, slots := 0, locals := 0 }
def ws_X5_styleAbove : List Cond := .code yX5_styleAbove cX5_styleAbove 1 (some .int) :: lw_all
def rm_X5_styleAbove : Room := { frames := 0, cells := 0, slots := 0, locals := 0 }
def ws_X5_styleUnder : List Cond := .code yX5_styleUnder cX5_styleUnder 1 (some .int) :: lw_all
def rm_X5_styleUnder : Room := { frames := 0, cells := 0, slots := 0, locals := 0 }
def ws_X5_hasGreaterStyleThan : List Cond := .code yX5_hasGreaterStyleThan cX5_hasGreaterStyleThan 2 (some .boolean) :: lw_all
def rm_X5_hasGreaterStyleThan : Room := { frames := 1, cells := 0, slots := 0, locals := 20 }
def ws_X6_isOutOfRange : List Cond := .code yX6_isOutOfRange cX6_isOutOfRange 1 (some .boolean) :: lw_all
def rm_X6_isOutOfRange : Room := { frames := 0, cells := 0, slots := 0, locals := 0 }
def ws_X6_step : List Cond := .code yX6_step cX6_step 4 (some .int) :: lw_all
def rm_X6_step : Room := { frames := 6, cells := 1, slots := 6, locals := 103 }
def ws_X6_wipe : List Cond := .code yX6_wipe cX6_wipe 2 (some .int) :: lw_all
def rm_X6_wipe : Room := { frames := 1, cells := 0, slots := 0, locals := 20 }
def ws_X6_number : List Cond := .code yX6_number cX6_number 3 (some .int) :: lw_all
def rm_X6_number : Room := { frames := 6, cells := 1, slots := 6, locals := 90 }
def ws_X6_clear : List Cond := .code yX6_clear cX6_clear 2 (some .int) :: lw_all
def rm_X6_clear : Room := { frames := 1, cells := 0, slots := 0, locals := 20 }
def ws_X6_kata : List Cond := .code yX6_kata cX6_kata 2 (some .int) :: lw_all
def rm_X6_kata : Room := { frames := 6, cells := 1, slots := 6, locals := 90 }
def ws_X6_kataAt : List Cond := .code yX6_kataAt cX6_kataAt 2 (some (.object "Katacode$Kata")) :: lw_all
def rm_X6_kataAt : Room := { frames := 6, cells := 1, slots := 6, locals := 90 }
def ws_X6_passesAll : List Cond := .code yX6_passesAll cX6_passesAll 4 (some .boolean) :: lw_all
def rm_X6_passesAll : Room := { frames := 3, cells := 0, slots := 0, locals := 73 }
def ws_X6_verdictOn : List Cond := .code yX6_verdictOn cX6_verdictOn 2 (some .char) :: lw_all
def rm_X6_verdictOn : Room := { frames := 4, cells := 0, slots := 0, locals := 96 }
def ws_X6_setTest : List Cond := .code yX6_setTest cX6_setTest 7 (some .int) :: lw_all
def rm_X6_setTest : Room := { frames := 5, cells := 0, slots := 0, locals := 117 }
def ws_X6_test : List Cond := .code yX6_test cX6_test 4 (some .int) :: lw_all
def rm_X6_test : Room := { frames := 7, cells := 2, slots := 12, locals := 143 }
def ws_X6_testAt : List Cond := .code yX6_testAt cX6_testAt 3 (some (.object "Katacode$Test")) :: lw_all
def rm_X6_testAt : Room := { frames := 6, cells := 1, slots := 6, locals := 90 }
def ws_X6_fix : List Cond := .code yX6_fix cX6_fix 3 (some .int) :: lw_all
def rm_X6_fix : Room := { frames := 7, cells := 2, slots := 12, locals := 143 }
def ws_X6_tests : List Cond := .code yX6_tests cX6_tests 2 (some .int) :: lw_all
def rm_X6_tests : Room := { frames := 7, cells := 1, slots := 6, locals := 111 }
def ws_X6_run : List Cond := .code yX6_run cX6_run 4 (some .char) :: lw_all
def rm_X6_run : Room := { frames := 7, cells := 3, slots := 18, locals := 112 }
def ws_X6_lastRun : List Cond := .code yX6_lastRun cX6_lastRun 1 (some (.object "Katacode$Machine")) :: lw_all
def rm_X6_lastRun : Room := { frames := 6, cells := 1, slots := 6, locals := 90 }
def ws_X6_done : List Cond := .code yX6_done cX6_done 1 (some .int) :: lw_all
def rm_X6_done : Room := { frames := 7, cells := 1, slots := 6, locals := 110 }
def ws_X6_outputs : List Cond := .code yX6_outputs cX6_outputs 1 (some .int) :: lw_all
def rm_X6_outputs : Room := { frames := 7, cells := 1, slots := 6, locals := 110 }
def ws_X6_output : List Cond := .code yX6_output cX6_output 3 (some .int) :: lw_all
def rm_X6_output : Room := { frames := 7, cells := 2, slots := 12, locals := 110 }
def ws_X6_depth : List Cond := .code yX6_depth cX6_depth 1 (some .int) :: lw_all
def rm_X6_depth : Room := { frames := 7, cells := 1, slots := 6, locals := 110 }
def ws_X6_member : List Cond := .code yX6_member cX6_member 1 (some .int) :: lw_all
def rm_X6_member : Room := { frames := 6, cells := 1, slots := 6, locals := 90 }
def ws_X6_memberAt : List Cond := .code yX6_memberAt cX6_memberAt 2 (some (.object "Katacode$Member")) :: lw_all
def rm_X6_memberAt : Room := { frames := 6, cells := 1, slots := 6, locals := 90 }
def ws_X6_bodyCount : List Cond := .code yX6_bodyCount cX6_bodyCount 3 (some .int) :: lw_all
def rm_X6_bodyCount : Room := { frames := 0, cells := 0, slots := 0, locals := 0 }
def ws_X6_isDroppedBefore : List Cond := .code yX6_isDroppedBefore cX6_isDroppedBefore 3 (some .boolean) :: lw_all
def rm_X6_isDroppedBefore : Room := { frames := 0, cells := 0, slots := 0, locals := 0 }
def ws_X6_nextToDrop : List Cond := .code yX6_nextToDrop cX6_nextToDrop 3 (some .int) :: lw_all
def rm_X6_nextToDrop : Room := { frames := 1, cells := 0, slots := 0, locals := 22 }
def ws_X6_dropBody : List Cond := .code yX6_dropBody cX6_dropBody 4 none :: lw_all
def rm_X6_dropBody : Room := { frames := 3, cells := 0, slots := 0, locals := 73 }
def ws_X6_makeRoom : List Cond := .code yX6_makeRoom cX6_makeRoom 4 (some .int) :: lw_all
def rm_X6_makeRoom : Room := { frames := 4, cells := 0, slots := 0, locals := 96 }
def ws_X6_submit : List Cond := .code yX6_submit cX6_submit 5 (some .int) :: lw_all
def rm_X6_submit : Room := { frames := 7, cells := 3, slots := 18, locals := 119 }
def ws_X6_works : List Cond := .code yX6_works cX6_works 1 (some .int) :: lw_all
def rm_X6_works : Room := { frames := 0, cells := 0, slots := 0, locals := 0 }
def ws_X6_workAt : List Cond := .code yX6_workAt cX6_workAt 2 (some (.object "Katacode$Work")) :: lw_all
def rm_X6_workAt : Room := { frames := 6, cells := 1, slots := 6, locals := 90 }
def ws_X6_of : List Cond := .code yX6_of cX6_of 4 (some .int) :: lw_all
def rm_X6_of : Room := { frames := 7, cells := 2, slots := 12, locals := 111 }
def ws_X6_state : List Cond := .code yX6_state cX6_state 2 (some .char) :: lw_all
def rm_X6_state : Room := { frames := 7, cells := 1, slots := 6, locals := 111 }
def ws_X6_sum : List Cond := .code yX6_sum cX6_sum 2 (some .long) :: lw_all
def rm_X6_sum : Room := { frames := 7, cells := 1, slots := 6, locals := 111 }
def ws_X6_stepsDoneBy : List Cond := .code yX6_stepsDoneBy cX6_stepsDoneBy 3 (some .int) :: lw_all
def rm_X6_stepsDoneBy : Room := { frames := 3, cells := 0, slots := 0, locals := 73 }
def ws_X6_stepsTold : List Cond := .code yX6_stepsTold cX6_stepsTold 3 (some .int) :: lw_all
def rm_X6_stepsTold : Room := { frames := 4, cells := 0, slots := 0, locals := 95 }
def ws_X6_steps : List Cond := .code yX6_steps cX6_steps 5 (some .int) :: lw_all
def rm_X6_steps : Room := { frames := 7, cells := 3, slots := 18, locals := 117 }
def ws_X6_hasBody : List Cond := .code yX6_hasBody cX6_hasBody 2 (some .boolean) :: lw_all
def rm_X6_hasBody : Room := { frames := 7, cells := 1, slots := 6, locals := 111 }
def ws_X6_letter : List Cond := .code yX6_letter cX6_letter 4 (some .char) :: lw_all
def rm_X6_letter : Room := { frames := 7, cells := 2, slots := 12, locals := 111 }
def ws_X6_drop : List Cond := .code yX6_drop cX6_drop 3 (some .int) :: lw_all
def rm_X6_drop : Room := { frames := 7, cells := 2, slots := 12, locals := 111 }
def ws_X6_capacity : List Cond := .code yX6_capacity cX6_capacity 2 (some .int) :: lw_all
def rm_X6_capacity : Room := { frames := 6, cells := 1, slots := 6, locals := 119 }
def ws_X6_bodies : List Cond := .code yX6_bodies cX6_bodies 1 (some .int) :: lw_all
def rm_X6_bodies : Room := { frames := 1, cells := 0, slots := 0, locals := 22 }
def ws_X6_read : List Cond := .code yX6_read cX6_read 5 (some .int) :: lw_all
def rm_X6_read : Room := { frames := 7, cells := 3, slots := 18, locals := 111 }
def ws_X6_copy : List Cond := .code yX6_copy cX6_copy 4 (some .int) :: lw_all
def rm_X6_copy : Room := { frames := 7, cells := 2, slots := 12, locals := 111 }
def ws_X6_isOpenToVoteOf : List Cond := .code yX6_isOpenToVoteOf cX6_isOpenToVoteOf 2 (some .boolean) :: lw_all
def rm_X6_isOpenToVoteOf : Room := { frames := 0, cells := 0, slots := 0, locals := 0 }
def ws_X6_takeNone : List Cond := .code yX6_takeNone cX6_takeNone 2 none :: lw_all
def rm_X6_takeNone : Room := { frames := 0, cells := 0, slots := 0, locals := 0 }
def ws_X6_takeWorks : List Cond := .code yX6_takeWorks cX6_takeWorks 5 none :: lw_all
def rm_X6_takeWorks : Room := { frames := 2, cells := 0, slots := 0, locals := 41 }
def ws_X6_takenPoints : List Cond := .code yX6_takenPoints cX6_takenPoints 6 (some .float) :: lw_all
def rm_X6_takenPoints : Room := { frames := 1, cells := 0, slots := 0, locals := 20 }
def ws_X6_takenBelt : List Cond := .code yX6_takenBelt cX6_takenBelt 5 (some .int) :: lw_all
def rm_X6_takenBelt : Room := { frames := 2, cells := 0, slots := 0, locals := 45 }
def ws_X6_beltOf : List Cond := .code yX6_beltOf cX6_beltOf 2 (some .int) :: lw_all
def rm_X6_beltOf : Room := { frames := 3, cells := 0, slots := 0, locals := 69 }
def ws_X6_vote : List Cond := .code yX6_vote cX6_vote 6 (some .int) :: lw_all
def rm_X6_vote : Room := { frames := 7, cells := 3, slots := 18, locals := 111 }
def ws_X6_commonDivisor : List Cond := .code yX6_commonDivisor cX6_commonDivisor 6 (some .int) :: lw_all
def rm_X6_commonDivisor : Room := { frames := 0, cells := 0, slots := 0, locals := 0 }
def ws_X6_style : List Cond := .code yX6_style cX6_style 7 (some .long) :: lw_all
def rm_X6_style : Room := { frames := 7, cells := 1, slots := 6, locals := 111 }
def ws_X6_isReviewedBefore : List Cond := .code yX6_isReviewedBefore cX6_isReviewedBefore 3 (some .boolean) :: lw_all
def rm_X6_isReviewedBefore : Room := { frames := 0, cells := 0, slots := 0, locals := 0 }
def ws_X6_review : List Cond := .code yX6_review cX6_review 6 (some .int) :: lw_all
def rm_X6_review : Room := { frames := 7, cells := 2, slots := 12, locals := 111 }
def ws_X6_best : List Cond := .code yX6_best cX6_best 3 (some .int) :: lw_all
def rm_X6_best : Room := { frames := 7, cells := 3, slots := 18, locals := 111 }
def ws_X6_pointsOf : List Cond := .code yX6_pointsOf cX6_pointsOf 2 (some .float) :: lw_all
def rm_X6_pointsOf : Room := { frames := 3, cells := 0, slots := 0, locals := 65 }
def ws_X6_points : List Cond := .code yX6_points cX6_points 2 (some .float) :: lw_all
def rm_X6_points : Room := { frames := 7, cells := 1, slots := 6, locals := 111 }
def ws_X6_belt : List Cond := .code yX6_belt cX6_belt 2 (some .int) :: lw_all
def rm_X6_belt : Room := { frames := 7, cells := 1, slots := 6, locals := 111 }
def ws_X6_honour : List Cond := .code yX6_honour cX6_honour 2 (some .int) :: lw_all
def rm_X6_honour : Room := { frames := 7, cells := 1, slots := 6, locals := 111 }
def ws_X6_isRankedBefore : List Cond := .code yX6_isRankedBefore cX6_isRankedBefore 7 (some .boolean) :: lw_all
def rm_X6_isRankedBefore : Room := { frames := 4, cells := 0, slots := 0, locals := 90 }
def ws_X6_ranked : List Cond := .code yX6_ranked cX6_ranked 5 (some .int) :: lw_all
def rm_X6_ranked : Room := { frames := 6, cells := 1, slots := 6, locals := 116 }
def ws_X6_challenge : List Cond := .code yX6_challenge cX6_challenge 5 (some .int) :: lw_all
def rm_X6_challenge : Room := { frames := 7, cells := 3, slots := 18, locals := 111 }
def ws_X6_closeChallenge : List Cond := .code yX6_closeChallenge cX6_closeChallenge 4 none :: lw_all
def rm_X6_closeChallenge : Room := { frames := 0, cells := 0, slots := 0, locals := 0 }
def ws_X6_closeByBody : List Cond := .code yX6_closeByBody cX6_closeByBody 6 (some .char) :: lw_all
def rm_X6_closeByBody : Room := { frames := 5, cells := 0, slots := 0, locals := 119 }
def ws_X6_give : List Cond := .code yX6_give cX6_give 5 (some .char) :: lw_all
def rm_X6_give : Room := { frames := 7, cells := 3, slots := 18, locals := 144 }
def ws_X6_isTheBody : List Cond := .code yX6_isTheBody cX6_isTheBody 6 (some .boolean) :: lw_all
def rm_X6_isTheBody : Room := { frames := 4, cells := 0, slots := 0, locals := 95 }
def ws_X6_answer : List Cond := .code yX6_answer cX6_answer 5 (some .char) :: lw_all
def rm_X6_answer : Room := { frames := 7, cells := 3, slots := 18, locals := 144 }
def ws_X6_open : List Cond := .code yX6_open cX6_open 2 (some .int) :: lw_all
def rm_X6_open : Room := { frames := 6, cells := 1, slots := 6, locals := 90 }
def ws_X6_left : List Cond := .code yX6_left cX6_left 3 (some .int) :: lw_all
def rm_X6_left : Room := { frames := 7, cells := 2, slots := 12, locals := 111 }
def ws_X6_days : List Cond := .code yX6_days cX6_days 5 (some .int) :: lw_all
def rm_X6_days : Room := { frames := 6, cells := 1, slots := 6, locals := 90 }
def ws_X6_checksum : List Cond := .code yX6_checksum cX6_checksum 4 (some .long) :: lw_all
def rm_X6_checksum : Room := { frames := 0, cells := 0, slots := 0, locals := 0 }
def ws_X6_standingShare : List Cond := .code yX6_standingShare cX6_standingShare 3 (some .float) :: lw_all
def rm_X6_standingShare : Room := { frames := 6, cells := 1, slots := 6, locals := 90 }
def ws_X6_meanSteps : List Cond := .code yX6_meanSteps cX6_meanSteps 7 (some .double) :: lw_all
def rm_X6_meanSteps : Room := { frames := 7, cells := 2, slots := 12, locals := 117 }
def ws_X6_areBodiesSound : List Cond := .code yX6_areBodiesSound cX6_areBodiesSound 3 (some .boolean) :: lw_all
def rm_X6_areBodiesSound : Room := { frames := 5, cells := 0, slots := 0, locals := 117 }
def ws_X6_beltFromBehind : List Cond := .code yX6_beltFromBehind cX6_beltFromBehind 5 (some .int) :: lw_all
def rm_X6_beltFromBehind : Room := { frames := 3, cells := 0, slots := 0, locals := 69 }
def ws_X6_areBeltsSound : List Cond := .code yX6_areBeltsSound cX6_areBeltsSound 2 (some .boolean) :: lw_all
def rm_X6_areBeltsSound : Room := { frames := 4, cells := 0, slots := 0, locals := 93 }
def ws_X6_isOpenTwice : List Cond := .code yX6_isOpenTwice cX6_isOpenTwice 3 (some .boolean) :: lw_all
def rm_X6_isOpenTwice : Room := { frames := 0, cells := 0, slots := 0, locals := 0 }
def ws_X6_areChallengesSound : List Cond := .code yX6_areChallengesSound cX6_areChallengesSound 3 (some .boolean) :: lw_all
def rm_X6_areChallengesSound : Room := { frames := 1, cells := 0, slots := 0, locals := 22 }
def ws_X6_isSound : List Cond := .code yX6_isSound cX6_isSound 1 (some .boolean) :: lw_all
def rm_X6_isSound : Room := { frames := 6, cells := 0, slots := 0, locals := 139 }
def ws_X7_thrown : List Cond := .code yX7_thrown cX7_thrown 1 (some .int) :: lw_all
def rm_X7_thrown : Room := { frames := 0, cells := 0, slots := 0, locals := 0 }
def ws_X7_in : List Cond := .code yX7_in cX7_in 3 (some .boolean) :: lw_all
def rm_X7_in : Room := { frames := 0, cells := 0, slots := 0, locals := 0 }
def ws_X7_fails : List Cond := .code yX7_fails cX7_fails 2 (some .int) :: lw_all
def rm_X7_fails : Room := { frames := 0, cells := 0, slots := 0, locals := 0 }
def ws_X7_tells : List Cond := .code yX7_tells cX7_tells 2 (some .int) :: lw_all
def rm_X7_tells : Room := { frames := 0, cells := 0, slots := 0, locals := 0 }
def ws_X7_isOneOf : List Cond := .code yX7_isOneOf cX7_isOneOf 5 (some .boolean) :: lw_all
def rm_X7_isOneOf : Room := { frames := 0, cells := 0, slots := 0, locals := 0 }
def ws_X7_isLetter : List Cond := .code yX7_isLetter cX7_isLetter 1 (some .boolean) :: lw_all
def rm_X7_isLetter : Room := { frames := 1, cells := 0, slots := 0, locals := 24 }
def ws_X7_step : List Cond := .code yX7_step cX7_step 3 (some .int) :: lw_all
def rm_X7_step : Room := { frames := 2, cells := 0, slots := 0, locals := 44 }
def ws_X7_wipe : List Cond := .code yX7_wipe cX7_wipe 2 (some .int) :: lw_all
def rm_X7_wipe : Room := { frames := 1, cells := 0, slots := 0, locals := 21 }
def ws_X7_number : List Cond := .code yX7_number cX7_number 3 (some .int) :: lw_all
def rm_X7_number : Room := { frames := 1, cells := 0, slots := 0, locals := 22 }
def ws_X7_clears : List Cond := .code yX7_clears cX7_clears 2 (some .int) :: lw_all
def rm_X7_clears : Room := { frames := 0, cells := 0, slots := 0, locals := 0 }
def ws_X7_clear : List Cond := .code yX7_clear cX7_clear 1 (some .int) :: lw_all
def rm_X7_clear : Room := { frames := 1, cells := 0, slots := 0, locals := 21 }
def ws_X7_partner : List Cond := .code yX7_partner cX7_partner 6 (some .int) :: lw_all
def rm_X7_partner : Room := { frames := 1, cells := 0, slots := 0, locals := 22 }
def ws_X7_isWhole : List Cond := .code yX7_isWhole cX7_isWhole 5 (some .boolean) :: lw_all
def rm_X7_isWhole : Room := { frames := 0, cells := 0, slots := 0, locals := 0 }
def ws_X7_needs : List Cond := .code yX7_needs cX7_needs 1 (some .int) :: lw_all
def rm_X7_needs : Room := { frames := 1, cells := 0, slots := 0, locals := 24 }
def ws_X7_changes : List Cond := .code yX7_changes cX7_changes 4 none :: lw_all
def rm_X7_changes : Room := { frames := 0, cells := 0, slots := 0, locals := 0 }
def ws_X7_runs : List Cond := .code yX7_runs cX7_runs 7 (some .char) :: lw_all
def rm_X7_runs : Room := { frames := 2, cells := 0, slots := 0, locals := 47 }
def ws_X7_sumOf : List Cond := .code yX7_sumOf cX7_sumOf 5 (some .long) :: lw_all
def rm_X7_sumOf : Room := { frames := 0, cells := 0, slots := 0, locals := 0 }
def ws_X7_isKata : List Cond := .code yX7_isKata cX7_isKata 2 (some .boolean) :: lw_all
def rm_X7_isKata : Room := { frames := 1, cells := 0, slots := 0, locals := 22 }
def ws_X7_isTest : List Cond := .code yX7_isTest cX7_isTest 3 (some .boolean) :: lw_all
def rm_X7_isTest : Room := { frames := 2, cells := 0, slots := 0, locals := 43 }
def ws_X7_kata : List Cond := .code yX7_kata cX7_kata 2 (some .int) :: lw_all
def rm_X7_kata : Room := { frames := 1, cells := 0, slots := 0, locals := 22 }
def ws_X7_passes : List Cond := .code yX7_passes cX7_passes 5 (some .boolean) :: lw_all
def rm_X7_passes : Room := { frames := 3, cells := 0, slots := 0, locals := 73 }
def ws_X7_puts : List Cond := .code yX7_puts cX7_puts 8 (some .int) :: lw_all
def rm_X7_puts : Room := { frames := 4, cells := 0, slots := 0, locals := 97 }
def ws_X7_test : List Cond := .code yX7_test cX7_test 2 (some .int) :: lw_all
def rm_X7_test : Room := { frames := 5, cells := 0, slots := 0, locals := 124 }
def ws_X7_fix : List Cond := .code yX7_fix cX7_fix 3 (some .int) :: lw_all
def rm_X7_fix : Room := { frames := 5, cells := 0, slots := 0, locals := 124 }
def ws_X7_tests : List Cond := .code yX7_tests cX7_tests 2 (some .int) :: lw_all
def rm_X7_tests : Room := { frames := 2, cells := 0, slots := 0, locals := 43 }
def ws_X7_run : List Cond := .code yX7_run cX7_run 5 (some .char) :: lw_all
def rm_X7_run : Room := { frames := 3, cells := 0, slots := 0, locals := 73 }
def ws_X7_done : List Cond := .code yX7_done cX7_done 1 (some .int) :: lw_all
def rm_X7_done : Room := { frames := 1, cells := 0, slots := 0, locals := 21 }
def ws_X7_outputs : List Cond := .code yX7_outputs cX7_outputs 1 (some .int) :: lw_all
def rm_X7_outputs : Room := { frames := 1, cells := 0, slots := 0, locals := 21 }
def ws_X7_output : List Cond := .code yX7_output cX7_output 2 (some .int) :: lw_all
def rm_X7_output : Room := { frames := 1, cells := 0, slots := 0, locals := 22 }
def ws_X7_depth : List Cond := .code yX7_depth cX7_depth 1 (some .int) :: lw_all
def rm_X7_depth : Room := { frames := 1, cells := 0, slots := 0, locals := 21 }
def ws_X7_isMember : List Cond := .code yX7_isMember cX7_isMember 2 (some .boolean) :: lw_all
def rm_X7_isMember : Room := { frames := 1, cells := 0, slots := 0, locals := 22 }
def ws_X7_isWork : List Cond := .code yX7_isWork cX7_isWork 2 (some .boolean) :: lw_all
def rm_X7_isWork : Room := { frames := 1, cells := 0, slots := 0, locals := 22 }
def ws_X7_member : List Cond := .code yX7_member cX7_member 1 (some .int) :: lw_all
def rm_X7_member : Room := { frames := 1, cells := 0, slots := 0, locals := 21 }
def ws_X7_copies : List Cond := .code yX7_copies cX7_copies 4 none :: lw_all
def rm_X7_copies : Room := { frames := 0, cells := 0, slots := 0, locals := 0 }
def ws_X7_bodyCount : List Cond := .code yX7_bodyCount cX7_bodyCount 3 (some .int) :: lw_all
def rm_X7_bodyCount : Room := { frames := 0, cells := 0, slots := 0, locals := 0 }
def ws_X7_weightOf : List Cond := .code yX7_weightOf cX7_weightOf 4 (some .int) :: lw_all
def rm_X7_weightOf : Room := { frames := 0, cells := 0, slots := 0, locals := 0 }
def ws_X7_isWorse : List Cond := .code yX7_isWorse cX7_isWorse 3 (some .boolean) :: lw_all
def rm_X7_isWorse : Room := { frames := 1, cells := 0, slots := 0, locals := 23 }
def ws_X7_stepsOf : List Cond := .code yX7_stepsOf cX7_stepsOf 4 (some .int) :: lw_all
def rm_X7_stepsOf : Room := { frames := 3, cells := 0, slots := 0, locals := 73 }
def ws_X7_loses : List Cond := .code yX7_loses cX7_loses 6 none :: lw_all
def rm_X7_loses : Room := { frames := 4, cells := 0, slots := 0, locals := 96 }
def ws_X7_drops : List Cond := .code yX7_drops cX7_drops 2 none :: lw_all
def rm_X7_drops : Room := { frames := 5, cells := 0, slots := 0, locals := 121 }
def ws_X7_makesRoom : List Cond := .code yX7_makesRoom cX7_makesRoom 4 (some .int) :: lw_all
def rm_X7_makesRoom : Room := { frames := 6, cells := 0, slots := 0, locals := 142 }
def ws_X7_submit : List Cond := .code yX7_submit cX7_submit 5 (some .int) :: lw_all
def rm_X7_submit : Room := { frames := 7, cells := 0, slots := 0, locals := 165 }
def ws_X7_works : List Cond := .code yX7_works cX7_works 1 (some .int) :: lw_all
def rm_X7_works : Room := { frames := 1, cells := 0, slots := 0, locals := 21 }
def ws_X7_votesOf : List Cond := .code yX7_votesOf cX7_votesOf 4 (some .int) :: lw_all
def rm_X7_votesOf : Room := { frames := 0, cells := 0, slots := 0, locals := 0 }
def ws_X7_weighed : List Cond := .code yX7_weighed cX7_weighed 4 (some .int) :: lw_all
def rm_X7_weighed : Room := { frames := 0, cells := 0, slots := 0, locals := 0 }
def ws_X7_of : List Cond := .code yX7_of cX7_of 3 (some .int) :: lw_all
def rm_X7_of : Room := { frames := 2, cells := 0, slots := 0, locals := 43 }
def ws_X7_state : List Cond := .code yX7_state cX7_state 2 (some .char) :: lw_all
def rm_X7_state : Room := { frames := 2, cells := 0, slots := 0, locals := 43 }
def ws_X7_sum : List Cond := .code yX7_sum cX7_sum 2 (some .long) :: lw_all
def rm_X7_sum : Room := { frames := 2, cells := 0, slots := 0, locals := 43 }
def ws_X7_steps : List Cond := .code yX7_steps cX7_steps 4 (some .int) :: lw_all
def rm_X7_steps : Room := { frames := 4, cells := 0, slots := 0, locals := 96 }
def ws_X7_hasBody : List Cond := .code yX7_hasBody cX7_hasBody 2 (some .boolean) :: lw_all
def rm_X7_hasBody : Room := { frames := 2, cells := 0, slots := 0, locals := 43 }
def ws_X7_letter : List Cond := .code yX7_letter cX7_letter 3 (some .char) :: lw_all
def rm_X7_letter : Room := { frames := 2, cells := 0, slots := 0, locals := 43 }
def ws_X7_drop : List Cond := .code yX7_drop cX7_drop 2 (some .int) :: lw_all
def rm_X7_drop : Room := { frames := 6, cells := 0, slots := 0, locals := 142 }
def ws_X7_capacity : List Cond := .code yX7_capacity cX7_capacity 2 (some .int) :: lw_all
def rm_X7_capacity : Room := { frames := 7, cells := 0, slots := 0, locals := 165 }
def ws_X7_bodies : List Cond := .code yX7_bodies cX7_bodies 1 (some .int) :: lw_all
def rm_X7_bodies : Room := { frames := 1, cells := 0, slots := 0, locals := 22 }
def ws_X7_copyCount : List Cond := .code yX7_copyCount cX7_copyCount 3 (some .int) :: lw_all
def rm_X7_copyCount : Room := { frames := 0, cells := 0, slots := 0, locals := 0 }
def ws_X7_hasCopy : List Cond := .code yX7_hasCopy cX7_hasCopy 5 (some .boolean) :: lw_all
def rm_X7_hasCopy : Room := { frames := 0, cells := 0, slots := 0, locals := 0 }
def ws_X7_read : List Cond := .code yX7_read cX7_read 7 (some .int) :: lw_all
def rm_X7_read : Room := { frames := 2, cells := 0, slots := 0, locals := 43 }
def ws_X7_copy : List Cond := .code yX7_copy cX7_copy 3 (some .int) :: lw_all
def rm_X7_copy : Room := { frames := 2, cells := 0, slots := 0, locals := 43 }
def ws_X7_counts : List Cond := .code yX7_counts cX7_counts 2 (some .boolean) :: lw_all
def rm_X7_counts : Room := { frames := 0, cells := 0, slots := 0, locals := 0 }
def ws_X7_isGreater : List Cond := .code yX7_isGreater cX7_isGreater 7 (some .boolean) :: lw_all
def rm_X7_isGreater : Room := { frames := 1, cells := 0, slots := 0, locals := 23 }
def ws_X7_bestOf : List Cond := .code yX7_bestOf cX7_bestOf 6 (some .int) :: lw_all
def rm_X7_bestOf : Room := { frames := 2, cells := 0, slots := 0, locals := 49 }
def ws_X7_pointsOf : List Cond := .code yX7_pointsOf cX7_pointsOf 6 (some .float) :: lw_all
def rm_X7_pointsOf : Room := { frames := 3, cells := 0, slots := 0, locals := 74 }
def ws_X7_beltOf : List Cond := .code yX7_beltOf cX7_beltOf 6 (some .int) :: lw_all
def rm_X7_beltOf : Room := { frames := 4, cells := 0, slots := 0, locals := 99 }
def ws_X7_vote : List Cond := .code yX7_vote cX7_vote 5 (some .int) :: lw_all
def rm_X7_vote : Room := { frames := 5, cells := 0, slots := 0, locals := 124 }
def ws_X7_style : List Cond := .code yX7_style cX7_style 8 (some .long) :: lw_all
def rm_X7_style : Room := { frames := 2, cells := 0, slots := 0, locals := 43 }
def ws_X7_isAhead : List Cond := .code yX7_isAhead cX7_isAhead 4 (some .boolean) :: lw_all
def rm_X7_isAhead : Room := { frames := 1, cells := 0, slots := 0, locals := 23 }
def ws_X7_review : List Cond := .code yX7_review cX7_review 5 (some .int) :: lw_all
def rm_X7_review : Room := { frames := 2, cells := 0, slots := 0, locals := 46 }
def ws_X7_best : List Cond := .code yX7_best cX7_best 4 (some .int) :: lw_all
def rm_X7_best : Room := { frames := 3, cells := 0, slots := 0, locals := 74 }
def ws_X7_points : List Cond := .code yX7_points cX7_points 2 (some .float) :: lw_all
def rm_X7_points : Room := { frames := 4, cells := 0, slots := 0, locals := 99 }
def ws_X7_belt : List Cond := .code yX7_belt cX7_belt 2 (some .int) :: lw_all
def rm_X7_belt : Room := { frames := 5, cells := 0, slots := 0, locals := 124 }
def ws_X7_honour : List Cond := .code yX7_honour cX7_honour 2 (some .int) :: lw_all
def rm_X7_honour : Room := { frames := 2, cells := 0, slots := 0, locals := 43 }
def ws_X7_isAheadOf : List Cond := .code yX7_isAheadOf cX7_isAheadOf 3 (some .boolean) :: lw_all
def rm_X7_isAheadOf : Room := { frames := 5, cells := 0, slots := 0, locals := 124 }
def ws_X7_ranked : List Cond := .code yX7_ranked cX7_ranked 5 (some .int) :: lw_all
def rm_X7_ranked : Room := { frames := 6, cells := 0, slots := 0, locals := 146 }
def ws_X7_openCount : List Cond := .code yX7_openCount cX7_openCount 3 (some .int) :: lw_all
def rm_X7_openCount : Room := { frames := 0, cells := 0, slots := 0, locals := 0 }
def ws_X7_challenge : List Cond := .code yX7_challenge cX7_challenge 3 (some .int) :: lw_all
def rm_X7_challenge : Room := { frames := 2, cells := 0, slots := 0, locals := 43 }
def ws_X7_closes : List Cond := .code yX7_closes cX7_closes 4 (some .char) :: lw_all
def rm_X7_closes : Room := { frames := 7, cells := 0, slots := 0, locals := 165 }
def ws_X7_give : List Cond := .code yX7_give cX7_give 3 (some .char) :: lw_all
def rm_X7_give : Room := { frames := 8, cells := 0, slots := 0, locals := 188 }
def ws_X7_isBody : List Cond := .code yX7_isBody cX7_isBody 8 (some .boolean) :: lw_all
def rm_X7_isBody : Room := { frames := 3, cells := 0, slots := 0, locals := 73 }
def ws_X7_answer : List Cond := .code yX7_answer cX7_answer 3 (some .char) :: lw_all
def rm_X7_answer : Room := { frames := 8, cells := 0, slots := 0, locals := 188 }
def ws_X7_open : List Cond := .code yX7_open cX7_open 6 (some .int) :: lw_all
def rm_X7_open : Room := { frames := 1, cells := 0, slots := 0, locals := 21 }
def ws_X7_left : List Cond := .code yX7_left cX7_left 2 (some .int) :: lw_all
def rm_X7_left : Room := { frames := 2, cells := 0, slots := 0, locals := 43 }
def ws_X7_days : List Cond := .code yX7_days cX7_days 4 (some .int) :: lw_all
def rm_X7_days : Room := { frames := 1, cells := 0, slots := 0, locals := 22 }
def ws_X7_checksum : List Cond := .code yX7_checksum cX7_checksum 4 (some .long) :: lw_all
def rm_X7_checksum : Room := { frames := 1, cells := 0, slots := 0, locals := 23 }
def ws_X7_standingShare : List Cond := .code yX7_standingShare cX7_standingShare 3 (some .float) :: lw_all
def rm_X7_standingShare : Room := { frames := 1, cells := 0, slots := 0, locals := 21 }
def ws_X7_meanSteps : List Cond := .code yX7_meanSteps cX7_meanSteps 6 (some .double) :: lw_all
def rm_X7_meanSteps : Room := { frames := 4, cells := 0, slots := 0, locals := 96 }
def ws_X7_isSound : List Cond := .code yX7_isSound cX7_isSound 1 (some .boolean) :: lw_all
def rm_X7_isSound : Room := { frames := 0, cells := 0, slots := 0, locals := 0 }
def ws_L_step : List Cond := .codeWith yL_step cL_step 5 (some .int) [(0, 10, 13, 13), (0, 10, 17, 15)] :: lw_all
def rm_L_step : Room := { frames := 7, cells := 1, slots := 6, locals := 126 }
def ws_L_number : List Cond := .codeWith yL_number cL_number 5 (some .int) [(0, 10, 13, 13), (0, 10, 17, 15)] :: lw_all
def rm_L_number : Room := { frames := 7, cells := 1, slots := 6, locals := 112 }
def ws_L_kata : List Cond := .codeWith yL_kata cL_kata 4 (some .int) [(0, 9, 12, 13), (0, 9, 15, 15)] :: lw_all
def rm_L_kata : Room := { frames := 7, cells := 1, slots := 6, locals := 111 }
def ws_L_test : List Cond := .codeWith yL_test cL_test 4 (some .int) [(0, 9, 12, 28), (0, 9, 15, 15)] :: lw_all
def rm_L_test : Room := { frames := 8, cells := 2, slots := 12, locals := 166 }
def ws_L_fix : List Cond := .codeWith yL_fix cL_fix 5 (some .int) [(0, 10, 13, 28)] :: lw_all
def rm_L_fix : Room := { frames := 8, cells := 2, slots := 12, locals := 165 }
def ws_L_tests : List Cond := .codeWith yL_tests cL_tests 4 (some .int) [(0, 9, 12, 28)] :: lw_all
def rm_L_tests : Room := { frames := 8, cells := 1, slots := 6, locals := 132 }
def ws_L_run : List Cond := .codeWith yL_run cL_run 5 (some .int) [(0, 10, 13, 28), (0, 10, 17, 41)] :: lw_all
def rm_L_run : Room := { frames := 8, cells := 3, slots := 18, locals := 135 }
def ws_L_done : List Cond := .codeWith yL_done cL_done 3 (some .int) [(0, 8, 11, 47)] :: lw_all
def rm_L_done : Room := { frames := 8, cells := 1, slots := 6, locals := 130 }
def ws_L_outputs : List Cond := .codeWith yL_outputs cL_outputs 3 (some .int) [(0, 8, 11, 47)] :: lw_all
def rm_L_outputs : Room := { frames := 8, cells := 1, slots := 6, locals := 130 }
def ws_L_output : List Cond := .codeWith yL_output cL_output 4 (some .int) [(0, 9, 12, 47)] :: lw_all
def rm_L_output : Room := { frames := 8, cells := 2, slots := 12, locals := 132 }
def ws_L_depth : List Cond := .codeWith yL_depth cL_depth 3 (some .int) [(0, 8, 11, 47)] :: lw_all
def rm_L_depth : Room := { frames := 8, cells := 1, slots := 6, locals := 130 }
def ws_L_member : List Cond := .codeWith yL_member cL_member 3 (some .int) [(0, 8, 11, 15)] :: lw_all
def rm_L_member : Room := { frames := 7, cells := 1, slots := 6, locals := 110 }
def ws_L_submit : List Cond := .codeWith yL_submit cL_submit 5 (some .int) [(0, 10, 13, 28), (0, 10, 17, 41), (0, 10, 21, 15)] :: lw_all
def rm_L_submit : Room := { frames := 8, cells := 3, slots := 18, locals := 143 }
def ws_L_of : List Cond := .codeWith yL_of cL_of 5 (some .int) [(0, 10, 13, 28), (0, 10, 17, 13)] :: lw_all
def rm_L_of : Room := { frames := 8, cells := 2, slots := 12, locals := 134 }
def ws_L_state : List Cond := .codeWith yL_state cL_state 4 (some .int) [(0, 9, 12, 28)] :: lw_all
def rm_L_state : Room := { frames := 8, cells := 1, slots := 6, locals := 132 }
def ws_L_sum : List Cond := .codeWith yL_sum cL_sum 4 (some .int) [(0, 8, 11, 28)] :: lw_all
def rm_L_sum : Room := { frames := 8, cells := 1, slots := 6, locals := 132 }
def ws_L_steps : List Cond := .codeWith yL_steps cL_steps 5 (some .int) [(0, 10, 13, 28), (0, 10, 17, 47)] :: lw_all
def rm_L_steps : Room := { frames := 8, cells := 3, slots := 18, locals := 141 }
def ws_L_hasBody : List Cond := .codeWith yL_hasBody cL_hasBody 4 (some .int) [(0, 16, 19, 28)] :: lw_all
def rm_L_hasBody : Room := { frames := 8, cells := 1, slots := 6, locals := 132 }
def ws_L_letter : List Cond := .codeWith yL_letter cL_letter 5 (some .int) [(0, 10, 13, 28), (0, 10, 17, 47)] :: lw_all
def rm_L_letter : Room := { frames := 8, cells := 2, slots := 12, locals := 134 }
def ws_L_drop : List Cond := .codeWith yL_drop cL_drop 4 (some .int) [(0, 9, 12, 28), (0, 9, 15, 41)] :: lw_all
def rm_L_drop : Room := { frames := 8, cells := 2, slots := 12, locals := 133 }
def ws_L_capacity : List Cond := .codeWith yL_capacity cL_capacity 4 (some .int) [(0, 9, 12, 13)] :: lw_all
def rm_L_capacity : Room := { frames := 7, cells := 1, slots := 6, locals := 140 }
def ws_L_read : List Cond := .codeWith yL_read cL_read 5 (some .int) [(0, 10, 13, 28), (0, 10, 17, 47)] :: lw_all
def rm_L_read : Room := { frames := 8, cells := 3, slots := 18, locals := 135 }
def ws_L_copy : List Cond := .codeWith yL_copy cL_copy 5 (some .int) [(0, 10, 13, 28), (0, 10, 17, 47)] :: lw_all
def rm_L_copy : Room := { frames := 8, cells := 2, slots := 12, locals := 134 }
def ws_L_vote : List Cond := .codeWith yL_vote cL_vote 6 (some .int) [(0, 12, 15, 28), (0, 12, 19, 13), (0, 12, 23, 41)] :: lw_all
def rm_L_vote : Room := { frames := 8, cells := 3, slots := 18, locals := 136 }
def ws_L_style : List Cond := .codeWith yL_style cL_style 5 (some .int) [(0, 9, 12, 28)] :: lw_all
def rm_L_style : Room := { frames := 8, cells := 1, slots := 6, locals := 137 }
def ws_L_review : List Cond := .codeWith yL_review cL_review 4 (some .int) [(0, 9, 12, 28), (0, 9, 15, 47)] :: lw_all
def rm_L_review : Room := { frames := 8, cells := 2, slots := 12, locals := 136 }
def ws_L_best : List Cond := .codeWith yL_best cL_best 5 (some .int) [(0, 10, 13, 28), (0, 10, 17, 47)] :: lw_all
def rm_L_best : Room := { frames := 8, cells := 3, slots := 18, locals := 133 }
def ws_L_points : List Cond := .codeWith yL_points cL_points 4 (some .int) [(0, 9, 12, 28)] :: lw_all
def rm_L_points : Room := { frames := 8, cells := 1, slots := 6, locals := 132 }
def ws_L_belt : List Cond := .codeWith yL_belt cL_belt 4 (some .int) [(0, 9, 12, 28)] :: lw_all
def rm_L_belt : Room := { frames := 8, cells := 1, slots := 6, locals := 132 }
def ws_L_honour : List Cond := .codeWith yL_honour cL_honour 4 (some .int) [(0, 9, 12, 28)] :: lw_all
def rm_L_honour : Room := { frames := 8, cells := 1, slots := 6, locals := 132 }
def ws_L_ranked : List Cond := .codeWith yL_ranked cL_ranked 4 (some .int) [(0, 9, 12, 47)] :: lw_all
def rm_L_ranked : Room := { frames := 7, cells := 1, slots := 6, locals := 140 }
def ws_L_challenge : List Cond := .codeWith yL_challenge cL_challenge 5 (some .int) [(0, 10, 13, 28), (0, 10, 17, 41), (0, 10, 21, 15)] :: lw_all
def rm_L_challenge : Room := { frames := 8, cells := 3, slots := 18, locals := 135 }
def ws_L_give : List Cond := .codeWith yL_give cL_give 5 (some .int) [(0, 10, 13, 28), (0, 10, 17, 41), (0, 10, 21, 47)] :: lw_all
def rm_L_give : Room := { frames := 8, cells := 3, slots := 18, locals := 168 }
def ws_L_answer : List Cond := .codeWith yL_answer cL_answer 5 (some .int) [(0, 10, 13, 28), (0, 10, 17, 41)] :: lw_all
def rm_L_answer : Room := { frames := 8, cells := 3, slots := 18, locals := 168 }
def ws_L_open : List Cond := .codeWith yL_open cL_open 4 (some .int) [(0, 9, 12, 47)] :: lw_all
def rm_L_open : Room := { frames := 7, cells := 1, slots := 6, locals := 111 }
def ws_L_left : List Cond := .codeWith yL_left cL_left 4 (some .int) [(0, 9, 12, 28), (0, 9, 15, 41)] :: lw_all
def rm_L_left : Room := { frames := 8, cells := 2, slots := 12, locals := 133 }
def ws_L_days : List Cond := .codeWith yL_days cL_days 4 (some .int) [(0, 9, 12, 13)] :: lw_all
def rm_L_days : Room := { frames := 7, cells := 1, slots := 6, locals := 114 }
def ws_L_standingShare : List Cond := .codeWith yL_standingShare cL_standingShare 3 (some .int) [(0, 8, 11, 147)] :: lw_all
def rm_L_standingShare : Room := { frames := 7, cells := 1, slots := 6, locals := 112 }
def ws_L_meanSteps : List Cond := .codeWith yL_meanSteps cL_meanSteps 4 (some .int) [(0, 8, 11, 28), (0, 8, 14, 147)] :: lw_all
def rm_L_meanSteps : Room := { frames := 8, cells := 2, slots := 12, locals := 143 }