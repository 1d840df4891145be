theorem q0 : (Cond.selects RX6 yX6_bodyCount yX6_bodyCount : Cond) ∈ lw_all := lw_t0 (List.mem_of_getElem? (i := 0) rfl) rfl
theorem q1 : (Cond.selects RX6 yX6_areBodiesSound yX6_areBodiesSound : Cond) ∈ lw_all := lw_t0 (List.mem_of_getElem? (i := 1) rfl) rfl
theorem q2 : (Cond.selects RX6 yX6_verdictOn yX6_verdictOn : Cond) ∈ lw_all := lw_t0 (List.mem_of_getElem? (i := 2) rfl) rfl
theorem q3 : (Cond.selects RX6 yX6_passesAll yX6_passesAll : Cond) ∈ lw_all := lw_t0 (List.mem_of_getElem? (i := 3) rfl) rfl
theorem q4 : (Cond.selects RX1 yX1_pairBrackets yX1_pairBrackets : Cond) ∈ lw_all := lw_t0 (List.mem_of_getElem? (i := 4) rfl) rfl
theorem q5 : (Cond.selects RX1 yX1_errorOf yX1_errorOf : Cond) ∈ lw_all := lw_t0 (List.mem_of_getElem? (i := 5) rfl) rfl
theorem q6 : (Cond.selects RX1 yX1_numberUnder yX1_numberUnder : Cond) ∈ lw_all := lw_t0 (List.mem_of_getElem? (i := 6) rfl) rfl
theorem q7 : (Cond.selects RX1 yX1_perform yX1_perform : Cond) ∈ lw_all := lw_t0 (List.mem_of_getElem? (i := 7) rfl) rfl
theorem q8 : (Cond.selects RX1 yX1_replace yX1_replace : Cond) ∈ lw_all := lw_t0 (List.mem_of_getElem? (i := 8) rfl) rfl
theorem q9 : (Cond.selects RX1 yX1_nextInput yX1_nextInput : Cond) ∈ lw_all := lw_t0 (List.mem_of_getElem? (i := 9) rfl) rfl
theorem q10 : (Cond.selects RX1 yX1_pop yX1_pop : Cond) ∈ lw_all := lw_t0 (List.mem_of_getElem? (i := 10) rfl) rfl
theorem q11 : (Cond.selects RX1 yX1_write yX1_write : Cond) ∈ lw_all := lw_t0 (List.mem_of_getElem? (i := 11) rfl) rfl
theorem q12 : (Cond.selects RX1 yX1_isAsExpected yX1_isAsExpected : Cond) ∈ lw_all := lw_t0 (List.mem_of_getElem? (i := 12) rfl) rfl
theorem q13 : (Cond.selects RX6 yX6_areBeltsSound yX6_areBeltsSound : Cond) ∈ lw_all := lw_t0 (List.mem_of_getElem? (i := 13) rfl) rfl
theorem q14 : (Cond.selects RX6 yX6_beltOf yX6_beltOf : Cond) ∈ lw_all := lw_t0 (List.mem_of_getElem? (i := 14) rfl) rfl
theorem q15 : (Cond.selects RX6 yX6_takeWorks yX6_takeWorks : Cond) ∈ lw_all := lw_t0 (List.mem_of_getElem? (i := 15) rfl) rfl
theorem q16 : (Cond.selects RX6 yX6_takeNone yX6_takeNone : Cond) ∈ lw_all := lw_t0 (List.mem_of_getElem? (i := 16) rfl) rfl
theorem q17 : (Cond.selects RX6 yX6_takenBelt yX6_takenBelt : Cond) ∈ lw_all := lw_t0 (List.mem_of_getElem? (i := 17) rfl) rfl
theorem q18 : (Cond.selects RX6 yX6_takenPoints yX6_takenPoints : Cond) ∈ lw_all := lw_t0 (List.mem_of_getElem? (i := 18) rfl) rfl
theorem q19 : (Cond.selects RX6 yX6_beltFromBehind yX6_beltFromBehind : Cond) ∈ lw_all := lw_t0 (List.mem_of_getElem? (i := 19) rfl) rfl
theorem q20 : (Cond.selects RX6 yX6_areChallengesSound yX6_areChallengesSound : Cond) ∈ lw_all := lw_t0 (List.mem_of_getElem? (i := 20) rfl) rfl
theorem q21 : (Cond.selects RX6 yX6_isOpenTwice yX6_isOpenTwice : Cond) ∈ lw_all := lw_t0 (List.mem_of_getElem? (i := 21) rfl) rfl
theorem q23 : (Cond.selects RX6 yX6_kataAt yX6_kataAt : Cond) ∈ lw_all := lw_t0 (List.mem_of_getElem? (i := 23) rfl) rfl
theorem q24 : (Cond.selects RX6 yX6_setTest yX6_setTest : Cond) ∈ lw_all := lw_t0 (List.mem_of_getElem? (i := 24) rfl) rfl
theorem q25 : (Cond.selects RX6 yX6_testAt yX6_testAt : Cond) ∈ lw_all := lw_t0 (List.mem_of_getElem? (i := 25) rfl) rfl
theorem q26 : (Cond.selects RX6 yX6_lastRun yX6_lastRun : Cond) ∈ lw_all := lw_t0 (List.mem_of_getElem? (i := 26) rfl) rfl
theorem q27 : (Cond.selects RX6 yX6_memberAt yX6_memberAt : Cond) ∈ lw_all := lw_t0 (List.mem_of_getElem? (i := 27) rfl) rfl
theorem q28 : (Cond.selects RX6 yX6_makeRoom yX6_makeRoom : Cond) ∈ lw_all := lw_t0 (List.mem_of_getElem? (i := 28) rfl) rfl
theorem q29 : (Cond.selects RX6 yX6_nextToDrop yX6_nextToDrop : Cond) ∈ lw_all := lw_t0 (List.mem_of_getElem? (i := 29) rfl) rfl
theorem q30 : (Cond.selects RX6 yX6_dropBody yX6_dropBody : Cond) ∈ lw_all := lw_t0 (List.mem_of_getElem? (i := 30) rfl) rfl
theorem q31 : (Cond.selects RX6 yX6_workAt yX6_workAt : Cond) ∈ lw_all := lw_t0 (List.mem_of_getElem? (i := 31) rfl) rfl
theorem q32 : (Cond.selects RX6 yX6_stepsTold yX6_stepsTold : Cond) ∈ lw_all := lw_t0 (List.mem_of_getElem? (i := 32) rfl) rfl
theorem q33 : (Cond.selects RX6 yX6_stepsDoneBy yX6_stepsDoneBy : Cond) ∈ lw_all := lw_t0 (List.mem_of_getElem? (i := 33) rfl) rfl
theorem q34 : (Cond.selects RX6 yX6_isReviewedBefore yX6_isReviewedBefore : Cond) ∈ lw_all := lw_t0 (List.mem_of_getElem? (i := 34) rfl) rfl
theorem q35 : (Cond.selects RX6 yX6_pointsOf yX6_pointsOf : Cond) ∈ lw_all := lw_t0 (List.mem_of_getElem? (i := 35) rfl) rfl
theorem q36 : (Cond.selects RX6 yX6_isRankedBefore yX6_isRankedBefore : Cond) ∈ lw_all := lw_t0 (List.mem_of_getElem? (i := 36) rfl) rfl
theorem q37 : (Cond.selects RX6 yX6_closeByBody yX6_closeByBody : Cond) ∈ lw_all := lw_t0 (List.mem_of_getElem? (i := 37) rfl) rfl
theorem q38 : (Cond.selects RX6 yX6_closeChallenge yX6_closeChallenge : Cond) ∈ lw_all := lw_t0 (List.mem_of_getElem? (i := 38) rfl) rfl
theorem q39 : (Cond.selects RX6 yX6_isTheBody yX6_isTheBody : Cond) ∈ lw_all := lw_t0 (List.mem_of_getElem? (i := 39) rfl) rfl
theorem q40 : (Cond.selects RX7 yX7_fails yX7_fails : Cond) ∈ lw_all := lw_t0 (List.mem_of_getElem? (i := 40) rfl) rfl
theorem q41 : (Cond.selects RX7 yX7_tells yX7_tells : Cond) ∈ lw_all := lw_t0 (List.mem_of_getElem? (i := 41) rfl) rfl
theorem q42 : (Cond.selects RX7 yX7_clears yX7_clears : Cond) ∈ lw_all := lw_t0 (List.mem_of_getElem? (i := 42) rfl) rfl
theorem q43 : (Cond.selects RX7 yX7_isKata yX7_isKata : Cond) ∈ lw_all := lw_t0 (List.mem_of_getElem? (i := 43) rfl) rfl
theorem q44 : (Cond.selects RX7 yX7_puts yX7_puts : Cond) ∈ lw_all := lw_t0 (List.mem_of_getElem? (i := 44) rfl) rfl
theorem q45 : (Cond.selects RX7 yX7_passes yX7_passes : Cond) ∈ lw_all := lw_t0 (List.mem_of_getElem? (i := 45) rfl) rfl
theorem q46 : (Cond.selects RX7 yX7_runs yX7_runs : Cond) ∈ lw_all := lw_t0 (List.mem_of_getElem? (i := 46) rfl) rfl
theorem q47 : (Cond.selects RX7 yX7_partner yX7_partner : Cond) ∈ lw_all := lw_t0 (List.mem_of_getElem? (i := 47) rfl) rfl
theorem q48 : (Cond.selects RX7 yX7_changes yX7_changes : Cond) ∈ lw_all := lw_t0 (List.mem_of_getElem? (i := 48) rfl) rfl
theorem q49 : (Cond.selects RX7 yX7_isTest yX7_isTest : Cond) ∈ lw_all := lw_t0 (List.mem_of_getElem? (i := 49) rfl) rfl
theorem q50 : (Cond.selects RX7 yX7_isWhole yX7_isWhole : Cond) ∈ lw_all := lw_t0 (List.mem_of_getElem? (i := 50) rfl) rfl
theorem q51 : (Cond.selects RX7 yX7_isMember yX7_isMember : Cond) ∈ lw_all := lw_t0 (List.mem_of_getElem? (i := 51) rfl) rfl
theorem q52 : (Cond.selects RX7 yX7_copies yX7_copies : Cond) ∈ lw_all := lw_t0 (List.mem_of_getElem? (i := 52) rfl) rfl
theorem q53 : (Cond.selects RX7 yX7_sumOf yX7_sumOf : Cond) ∈ lw_all := lw_t0 (List.mem_of_getElem? (i := 53) rfl) rfl
theorem q54 : (Cond.selects RX7 yX7_makesRoom yX7_makesRoom : Cond) ∈ lw_all := lw_t0 (List.mem_of_getElem? (i := 54) rfl) rfl
theorem q55 : (Cond.selects RX7 yX7_bodyCount yX7_bodyCount : Cond) ∈ lw_all := lw_t0 (List.mem_of_getElem? (i := 55) rfl) rfl
theorem q56 : (Cond.selects RX7 yX7_isWorse yX7_isWorse : Cond) ∈ lw_all := lw_t0 (List.mem_of_getElem? (i := 56) rfl) rfl
theorem q57 : (Cond.selects RX7 yX7_weightOf yX7_weightOf : Cond) ∈ lw_all := lw_t0 (List.mem_of_getElem? (i := 57) rfl) rfl
theorem q58 : (Cond.selects RX7 yX7_drops yX7_drops : Cond) ∈ lw_all := lw_t0 (List.mem_of_getElem? (i := 58) rfl) rfl
theorem q59 : (Cond.selects RX7 yX7_loses yX7_loses : Cond) ∈ lw_all := lw_t0 (List.mem_of_getElem? (i := 59) rfl) rfl
theorem q60 : (Cond.selects RX7 yX7_stepsOf yX7_stepsOf : Cond) ∈ lw_all := lw_t0 (List.mem_of_getElem? (i := 60) rfl) rfl
theorem q61 : (Cond.selects RX7 yX7_isWork yX7_isWork : Cond) ∈ lw_all := lw_t0 (List.mem_of_getElem? (i := 61) rfl) rfl
theorem q62 : (Cond.selects RX7 yX7_votesOf yX7_votesOf : Cond) ∈ lw_all := lw_t0 (List.mem_of_getElem? (i := 62) rfl) rfl
theorem q63 : (Cond.selects RX7 yX7_copyCount yX7_copyCount : Cond) ∈ lw_all := lw_t0 (List.mem_of_getElem? (i := 63) rfl) rfl
theorem q64 : (Cond.selects RX7 yX7_beltOf yX7_beltOf : Cond) ∈ lw_all := lw_t0 (List.mem_of_getElem? (i := 64) rfl) rfl
theorem q65 : (Cond.selects RX7 yX7_bestOf yX7_bestOf : Cond) ∈ lw_all := lw_t0 (List.mem_of_getElem? (i := 65) rfl) rfl
theorem q66 : (Cond.selects RX7 yX7_counts yX7_counts : Cond) ∈ lw_all := lw_t0 (List.mem_of_getElem? (i := 66) rfl) rfl
theorem q67 : (Cond.selects RX7 yX7_isGreater yX7_isGreater : Cond) ∈ lw_all := lw_t0 (List.mem_of_getElem? (i := 67) rfl) rfl
theorem q68 : (Cond.selects RX7 yX7_weighed yX7_weighed : Cond) ∈ lw_all := lw_t0 (List.mem_of_getElem? (i := 68) rfl) rfl
theorem q69 : (Cond.selects RX7 yX7_pointsOf yX7_pointsOf : Cond) ∈ lw_all := lw_t0 (List.mem_of_getElem? (i := 69) rfl) rfl
theorem q70 : (Cond.selects RX7 yX7_isAhead yX7_isAhead : Cond) ∈ lw_all := lw_t0 (List.mem_of_getElem? (i := 70) rfl) rfl
theorem q71 : (Cond.selects RX7 yX7_isAheadOf yX7_isAheadOf : Cond) ∈ lw_all := lw_t0 (List.mem_of_getElem? (i := 71) rfl) rfl
theorem q72 : (Cond.selects RX7 yX7_openCount yX7_openCount : Cond) ∈ lw_all := lw_t0 (List.mem_of_getElem? (i := 72) rfl) rfl
theorem q73 : (Cond.selects RX7 yX7_hasCopy yX7_hasCopy : Cond) ∈ lw_all := lw_t0 (List.mem_of_getElem? (i := 73) rfl) rfl
theorem q74 : (Cond.selects RX7 yX7_closes yX7_closes : Cond) ∈ lw_all := lw_t0 (List.mem_of_getElem? (i := 74) rfl) rfl
theorem q75 : (Cond.selects RX7 yX7_isBody yX7_isBody : Cond) ∈ lw_all := lw_t0 (List.mem_of_getElem? (i := 75) rfl) rfl
theorem q76 : (Cond.initialized RL : Cond) ∈ lw_all := lw_t1 (List.mem_of_getElem? (i := 0) rfl) rfl
theorem q77 : (Cond.initialized RX6 : Cond) ∈ lw_all := lw_t1 (List.mem_of_getElem? (i := 1) rfl) rfl
theorem q78 : (Cond.initialized RX3 : Cond) ∈ lw_all := lw_t1 (List.mem_of_getElem? (i := 2) rfl) rfl
theorem q79 : (Cond.initialized RX4 : Cond) ∈ lw_all := lw_t1 (List.mem_of_getElem? (i := 3) rfl) rfl
theorem q80 : (Cond.initialized RX1 : Cond) ∈ lw_all := lw_t1 (List.mem_of_getElem? (i := 4) rfl) rfl
theorem q81 : (Cond.initialized RX0 : Cond) ∈ lw_all := lw_t1 (List.mem_of_getElem? (i := 5) rfl) rfl
theorem q82 : (Cond.initialized RX2 : Cond) ∈ lw_all := lw_t1 (List.mem_of_getElem? (i := 6) rfl) rfl
theorem q83 : (Cond.initialized RX5 : Cond) ∈ lw_all := lw_t1 (List.mem_of_getElem? (i := 7) rfl) rfl
theorem q84 : (Cond.initialized RX7 : Cond) ∈ lw_all := lw_t1 (List.mem_of_getElem? (i := 8) rfl) rfl
theorem q85 : (Cond.initialized RJ0 : Cond) ∈ lw_all := lw_t1 (List.mem_of_getElem? (i := 9) rfl) rfl
theorem q94 : (Cond.initialized "java/lang/IllegalArgumentException" : Cond) ∈ lw_all := lw_t1 (List.mem_of_getElem? (i := 18) rfl) rfl
theorem q95 : (Cond.initialized "java/lang/IllegalStateException" : Cond) ∈ lw_all := lw_t1 (List.mem_of_getElem? (i := 19) rfl) rfl
theorem q96 : (Cond.initialized "java/lang/IndexOutOfBoundsException" : Cond) ∈ lw_all := lw_t1 (List.mem_of_getElem? (i := 20) rfl) rfl
theorem q98 : (Cond.initialized "java/lang/UnsupportedOperationException" : Cond) ∈ lw_all := lw_t1 (List.mem_of_getElem? (i := 22) rfl) rfl
theorem q99 : (Cond.initialized "java/util/NoSuchElementException" : Cond) ∈ lw_all := lw_t1 (List.mem_of_getElem? (i := 23) rfl) rfl
theorem q100 : (Cond.initialized "java/lang/ArithmeticException" : Cond) ∈ lw_all := lw_t1 (List.mem_of_getElem? (i := 24) rfl) rfl
theorem q101 : (Cond.classLink RL 8 "Katacode" : Cond) ∈ lw_all := lw_t1 (List.mem_of_getElem? (i := 25) rfl) rfl
theorem q102 : (Cond.instantiable RX6 16 : Cond) ∈ lw_all := lw_t1 (List.mem_of_getElem? (i := 26) rfl) rfl
theorem q103 : (Cond.methodLink RL 153 yX6_init : Cond) ∈ lw_all := lw_t1 (List.mem_of_getElem? (i := 27) rfl) rfl
theorem q104 : (Cond.instanceMethod yX6_init : Cond) ∈ lw_all := lw_t1 (List.mem_of_getElem? (i := 28) rfl) rfl
theorem q105 : (Cond.code yX6_init cX6_init 2 none : Cond) ∈ lw_all := lw_t1 (List.mem_of_getElem? (i := 29) rfl) rfl
theorem q106 : (Cond.methodLink RX6 1 objectInit : Cond) ∈ lw_all := lw_t1 (List.mem_of_getElem? (i := 30) rfl) rfl
theorem q107 : (Cond.instanceMethod objectInit : Cond) ∈ lw_all := lw_t1 (List.mem_of_getElem? (i := 31) rfl) rfl
theorem q108 : (Cond.code objectInit ⟨#[0xb1]⟩ 1 none : Cond) ∈ lw_all := lw_t1 (List.mem_of_getElem? (i := 32) rfl) rfl
theorem q109 : (Cond.classLink RX6 7 "Katacode$Program" : Cond) ∈ lw_all := lw_t1 (List.mem_of_getElem? (i := 33) rfl) rfl
theorem q110 : (Cond.instantiable RX3 3 : Cond) ∈ lw_all := lw_t1 (List.mem_of_getElem? (i := 34) rfl) rfl
theorem q111 : (Cond.methodLink RX6 9 yX3_init : Cond) ∈ lw_all := lw_t1 (List.mem_of_getElem? (i := 35) rfl) rfl
theorem q112 : (Cond.instanceMethod yX3_init : Cond) ∈ lw_all := lw_t1 (List.mem_of_getElem? (i := 36) rfl) rfl
theorem q113 : (Cond.code yX3_init cX3_init 1 none : Cond) ∈ lw_all := lw_t1 (List.mem_of_getElem? (i := 37) rfl) rfl
theorem q114 : (Cond.methodLink RX3 3 objectInit : Cond) ∈ lw_all := lw_t1 (List.mem_of_getElem? (i := 38) rfl) rfl
theorem q115 : (Cond.fieldLink RX3 9 "Katacode$Program" "letters" "[C" : Cond) ∈ lw_all := lw_t1 (List.mem_of_getElem? (i := 39) rfl) rfl
theorem q116 : (Cond.fieldLink RX1 49 "Katacode$Program" "letters" "[C" : Cond) ∈ lw_all := lw_t1 (List.mem_of_getElem? (i := 40) rfl) rfl
theorem q117 : (Cond.fieldLink RX6 260 "Katacode$Program" "letters" "[C" : Cond) ∈ lw_all := lw_t1 (List.mem_of_getElem? (i := 41) rfl) rfl
theorem q118 : (Cond.fieldLink RX3 15 "Katacode$Program" "numbers" "[I" : Cond) ∈ lw_all := lw_t1 (List.mem_of_getElem? (i := 42) rfl) rfl
theorem q119 : (Cond.fieldLink RX1 57 "Katacode$Program" "numbers" "[I" : Cond) ∈ lw_all := lw_t1 (List.mem_of_getElem? (i := 43) rfl) rfl
theorem q120 : (Cond.fieldLink RX3 19 "Katacode$Program" "length" "I" : Cond) ∈ lw_all := lw_t1 (List.mem_of_getElem? (i := 44) rfl) rfl
theorem q121 : (Cond.fieldLink RX5 71 "Katacode$Program" "length" "I" : Cond) ∈ lw_all := lw_t1 (List.mem_of_getElem? (i := 45) rfl) rfl
theorem q122 : (Cond.fieldLink RX1 44 "Katacode$Program" "length" "I" : Cond) ∈ lw_all := lw_t1 (List.mem_of_getElem? (i := 46) rfl) rfl
theorem q123 : (Cond.fieldLink RX6 105 "Katacode$Program" "length" "I" : Cond) ∈ lw_all := lw_t1 (List.mem_of_getElem? (i := 47) rfl) rfl
theorem q131 : (Cond.arrayClass .char : Cond) ∈ lw_all := lw_t1 (List.mem_of_getElem? (i := 55) rfl) rfl
theorem q132 : (Cond.arrayClass .int : Cond) ∈ lw_all := lw_t1 (List.mem_of_getElem? (i := 56) rfl) rfl
theorem q133 : (Cond.classLink RX6 16 "Katacode$Test" : Cond) ∈ lw_all := lw_t1 (List.mem_of_getElem? (i := 57) rfl) rfl
theorem q134 : (Cond.instantiable RX4 5 : Cond) ∈ lw_all := lw_t1 (List.mem_of_getElem? (i := 58) rfl) rfl
theorem q135 : (Cond.methodLink RX6 18 yX4_init : Cond) ∈ lw_all := lw_t1 (List.mem_of_getElem? (i := 59) rfl) rfl
theorem q136 : (Cond.instanceMethod yX4_init : Cond) ∈ lw_all := lw_t1 (List.mem_of_getElem? (i := 60) rfl) rfl
theorem q137 : (Cond.code yX4_init cX4_init 1 none : Cond) ∈ lw_all := lw_t1 (List.mem_of_getElem? (i := 61) rfl) rfl
theorem q138 : (Cond.methodLink RX4 3 objectInit : Cond) ∈ lw_all := lw_t1 (List.mem_of_getElem? (i := 62) rfl) rfl
theorem q139 : (Cond.fieldLink RX4 9 "Katacode$Test" "inputs" "[I" : Cond) ∈ lw_all := lw_t1 (List.mem_of_getElem? (i := 63) rfl) rfl
theorem q140 : (Cond.fieldLink RX1 96 "Katacode$Test" "inputs" "[I" : Cond) ∈ lw_all := lw_t1 (List.mem_of_getElem? (i := 64) rfl) rfl
theorem q141 : (Cond.fieldLink RX4 15 "Katacode$Test" "expected" "[I" : Cond) ∈ lw_all := lw_t1 (List.mem_of_getElem? (i := 65) rfl) rfl
theorem q142 : (Cond.fieldLink RX1 102 "Katacode$Test" "expected" "[I" : Cond) ∈ lw_all := lw_t1 (List.mem_of_getElem? (i := 66) rfl) rfl
theorem q143 : (Cond.fieldLink RX4 18 "Katacode$Test" "inputCount" "I" : Cond) ∈ lw_all := lw_t1 (List.mem_of_getElem? (i := 67) rfl) rfl
theorem q144 : (Cond.fieldLink RX1 72 "Katacode$Test" "inputCount" "I" : Cond) ∈ lw_all := lw_t1 (List.mem_of_getElem? (i := 68) rfl) rfl
theorem q145 : (Cond.fieldLink RX6 123 "Katacode$Test" "inputCount" "I" : Cond) ∈ lw_all := lw_t1 (List.mem_of_getElem? (i := 69) rfl) rfl
theorem q146 : (Cond.fieldLink RX4 22 "Katacode$Test" "expectedCount" "I" : Cond) ∈ lw_all := lw_t1 (List.mem_of_getElem? (i := 70) rfl) rfl
theorem q147 : (Cond.fieldLink RX6 120 "Katacode$Test" "expectedCount" "I" : Cond) ∈ lw_all := lw_t1 (List.mem_of_getElem? (i := 71) rfl) rfl
theorem q148 : (Cond.fieldLink RX1 99 "Katacode$Test" "expectedCount" "I" : Cond) ∈ lw_all := lw_t1 (List.mem_of_getElem? (i := 72) rfl) rfl
theorem q149 : (Cond.fieldLink RX4 25 "Katacode$Test" "changedAt" "I" : Cond) ∈ lw_all := lw_t1 (List.mem_of_getElem? (i := 73) rfl) rfl
theorem q150 : (Cond.fieldLink RX6 421 "Katacode$Test" "changedAt" "I" : Cond) ∈ lw_all := lw_t1 (List.mem_of_getElem? (i := 74) rfl) rfl
theorem q162 : (Cond.classLink RX6 23 "Katacode$Kata" : Cond) ∈ lw_all := lw_t1 (List.mem_of_getElem? (i := 86) rfl) rfl
theorem q164 : (Cond.classLink RX6 29 "Katacode$Member" : Cond) ∈ lw_all := lw_t1 (List.mem_of_getElem? (i := 88) rfl) rfl
theorem q166 : (Cond.classLink RX6 35 "Katacode$Work" : Cond) ∈ lw_all := lw_t1 (List.mem_of_getElem? (i := 90) rfl) rfl
theorem q168 : (Cond.classLink RX6 48 "Katacode$Machine" : Cond) ∈ lw_all := lw_t1 (List.mem_of_getElem? (i := 92) rfl) rfl
theorem q169 : (Cond.instantiable RX1 9 : Cond) ∈ lw_all := lw_t1 (List.mem_of_getElem? (i := 93) rfl) rfl
theorem q170 : (Cond.methodLink RX6 50 yX1_init : Cond) ∈ lw_all := lw_t1 (List.mem_of_getElem? (i := 94) rfl) rfl
theorem q171 : (Cond.instanceMethod yX1_init : Cond) ∈ lw_all := lw_t1 (List.mem_of_getElem? (i := 95) rfl) rfl
theorem q172 : (Cond.code yX1_init cX1_init 1 none : Cond) ∈ lw_all := lw_t1 (List.mem_of_getElem? (i := 96) rfl) rfl
theorem q173 : (Cond.methodLink RX1 3 objectInit : Cond) ∈ lw_all := lw_t1 (List.mem_of_getElem? (i := 97) rfl) rfl
theorem q174 : (Cond.fieldLink RX1 9 "Katacode$Machine" "stack" "[I" : Cond) ∈ lw_all := lw_t1 (List.mem_of_getElem? (i := 98) rfl) rfl
theorem q175 : (Cond.fieldLink RX1 15 "Katacode$Machine" "outputs" "[I" : Cond) ∈ lw_all := lw_t1 (List.mem_of_getElem? (i := 99) rfl) rfl
theorem q176 : (Cond.fieldLink RX6 191 "Katacode$Machine" "outputs" "[I" : Cond) ∈ lw_all := lw_t1 (List.mem_of_getElem? (i := 100) rfl) rfl
theorem q177 : (Cond.fieldLink RX1 18 "Katacode$Machine" "partners" "[I" : Cond) ∈ lw_all := lw_t1 (List.mem_of_getElem? (i := 101) rfl) rfl
theorem q178 : (Cond.fieldLink RX1 21 "Katacode$Machine" "opened" "[I" : Cond) ∈ lw_all := lw_t1 (List.mem_of_getElem? (i := 102) rfl) rfl
theorem q179 : (Cond.fieldLink RX1 24 "Katacode$Machine" "depth" "I" : Cond) ∈ lw_all := lw_t1 (List.mem_of_getElem? (i := 103) rfl) rfl
theorem q180 : (Cond.fieldLink RX6 194 "Katacode$Machine" "depth" "I" : Cond) ∈ lw_all := lw_t1 (List.mem_of_getElem? (i := 104) rfl) rfl
theorem q181 : (Cond.fieldLink RX1 28 "Katacode$Machine" "outputCount" "I" : Cond) ∈ lw_all := lw_t1 (List.mem_of_getElem? (i := 105) rfl) rfl
theorem q182 : (Cond.fieldLink RX6 183 "Katacode$Machine" "outputCount" "I" : Cond) ∈ lw_all := lw_t1 (List.mem_of_getElem? (i := 106) rfl) rfl
theorem q183 : (Cond.fieldLink RX1 31 "Katacode$Machine" "stepsDone" "I" : Cond) ∈ lw_all := lw_t1 (List.mem_of_getElem? (i := 107) rfl) rfl
theorem q184 : (Cond.fieldLink RX6 180 "Katacode$Machine" "stepsDone" "I" : Cond) ∈ lw_all := lw_t1 (List.mem_of_getElem? (i := 108) rfl) rfl
theorem q185 : (Cond.fieldLink RX1 34 "Katacode$Machine" "inputsTaken" "I" : Cond) ∈ lw_all := lw_t1 (List.mem_of_getElem? (i := 109) rfl) rfl
theorem q186 : (Cond.fieldLink RX1 37 "Katacode$Machine" "place" "I" : Cond) ∈ lw_all := lw_t1 (List.mem_of_getElem? (i := 110) rfl) rfl
theorem q206 : (Cond.instantiable RX0 3 : Cond) ∈ lw_all := lw_t1 (List.mem_of_getElem? (i := 130) rfl) rfl
theorem q207 : (Cond.methodLink RX6 81 yX0_init : Cond) ∈ lw_all := lw_t1 (List.mem_of_getElem? (i := 131) rfl) rfl
theorem q208 : (Cond.instanceMethod yX0_init : Cond) ∈ lw_all := lw_t1 (List.mem_of_getElem? (i := 132) rfl) rfl
theorem q209 : (Cond.code yX0_init cX0_init 2 none : Cond) ∈ lw_all := lw_t1 (List.mem_of_getElem? (i := 133) rfl) rfl
theorem q210 : (Cond.methodLink RX0 3 objectInit : Cond) ∈ lw_all := lw_t1 (List.mem_of_getElem? (i := 134) rfl) rfl
theorem q211 : (Cond.classLink RX0 9 "Katacode$Test" : Cond) ∈ lw_all := lw_t1 (List.mem_of_getElem? (i := 135) rfl) rfl
theorem q213 : (Cond.methodLink RX0 24 yX4_init : Cond) ∈ lw_all := lw_t1 (List.mem_of_getElem? (i := 137) rfl) rfl
theorem q214 : (Cond.fieldLink RX0 11 "Katacode$Kata" "tests" "[LKatacode$Test;" : Cond) ∈ lw_all := lw_t1 (List.mem_of_getElem? (i := 138) rfl) rfl
theorem q215 : (Cond.fieldLink RX6 151 "Katacode$Kata" "tests" "[LKatacode$Test;" : Cond) ∈ lw_all := lw_t1 (List.mem_of_getElem? (i := 139) rfl) rfl
theorem q216 : (Cond.fieldLink RX0 17 "Katacode$Kata" "testCount" "I" : Cond) ∈ lw_all := lw_t1 (List.mem_of_getElem? (i := 140) rfl) rfl
theorem q217 : (Cond.fieldLink RX6 146 "Katacode$Kata" "testCount" "I" : Cond) ∈ lw_all := lw_t1 (List.mem_of_getElem? (i := 141) rfl) rfl
theorem q218 : (Cond.fieldLink RX0 21 "Katacode$Kata" "level" "I" : Cond) ∈ lw_all := lw_t1 (List.mem_of_getElem? (i := 142) rfl) rfl
theorem q219 : (Cond.fieldLink RX6 139 "Katacode$Kata" "level" "I" : Cond) ∈ lw_all := lw_t1 (List.mem_of_getElem? (i := 143) rfl) rfl
theorem q227 : (Cond.instantiable RX2 4 : Cond) ∈ lw_all := lw_t1 (List.mem_of_getElem? (i := 151) rfl) rfl
theorem q228 : (Cond.methodLink RX6 82 yX2_init : Cond) ∈ lw_all := lw_t1 (List.mem_of_getElem? (i := 152) rfl) rfl
theorem q229 : (Cond.instanceMethod yX2_init : Cond) ∈ lw_all := lw_t1 (List.mem_of_getElem? (i := 153) rfl) rfl
theorem q230 : (Cond.code yX2_init cX2_init 2 none : Cond) ∈ lw_all := lw_t1 (List.mem_of_getElem? (i := 154) rfl) rfl
theorem q231 : (Cond.methodLink RX2 3 objectInit : Cond) ∈ lw_all := lw_t1 (List.mem_of_getElem? (i := 155) rfl) rfl
theorem q232 : (Cond.classLink RX2 9 "Katacode$Program" : Cond) ∈ lw_all := lw_t1 (List.mem_of_getElem? (i := 156) rfl) rfl
theorem q234 : (Cond.methodLink RX2 28 yX3_init : Cond) ∈ lw_all := lw_t1 (List.mem_of_getElem? (i := 158) rfl) rfl
theorem q235 : (Cond.fieldLink RX2 11 "Katacode$Member" "copies" "[LKatacode$Program;" : Cond) ∈ lw_all := lw_t1 (List.mem_of_getElem? (i := 159) rfl) rfl
theorem q236 : (Cond.fieldLink RX6 357 "Katacode$Member" "copies" "[LKatacode$Program;" : Cond) ∈ lw_all := lw_t1 (List.mem_of_getElem? (i := 160) rfl) rfl
theorem q237 : (Cond.fieldLink RX2 17 "Katacode$Member" "copyWorks" "[I" : Cond) ∈ lw_all := lw_t1 (List.mem_of_getElem? (i := 161) rfl) rfl
theorem q238 : (Cond.fieldLink RX6 284 "Katacode$Member" "copyWorks" "[I" : Cond) ∈ lw_all := lw_t1 (List.mem_of_getElem? (i := 162) rfl) rfl
theorem q239 : (Cond.fieldLink RX2 21 "Katacode$Member" "copyCount" "I" : Cond) ∈ lw_all := lw_t1 (List.mem_of_getElem? (i := 163) rfl) rfl
theorem q240 : (Cond.fieldLink RX6 279 "Katacode$Member" "copyCount" "I" : Cond) ∈ lw_all := lw_t1 (List.mem_of_getElem? (i := 164) rfl) rfl
theorem q241 : (Cond.fieldLink RX2 25 "Katacode$Member" "honour" "I" : Cond) ∈ lw_all := lw_t1 (List.mem_of_getElem? (i := 165) rfl) rfl
theorem q242 : (Cond.fieldLink RX6 331 "Katacode$Member" "honour" "I" : Cond) ∈ lw_all := lw_t1 (List.mem_of_getElem? (i := 166) rfl) rfl
theorem q252 : (Cond.instantiable RX5 17 : Cond) ∈ lw_all := lw_t1 (List.mem_of_getElem? (i := 176) rfl) rfl
theorem q253 : (Cond.methodLink RX6 83 yX5_init : Cond) ∈ lw_all := lw_t1 (List.mem_of_getElem? (i := 177) rfl) rfl
theorem q254 : (Cond.instanceMethod yX5_init : Cond) ∈ lw_all := lw_t1 (List.mem_of_getElem? (i := 178) rfl) rfl
theorem q255 : (Cond.code yX5_init cX5_init 1 none : Cond) ∈ lw_all := lw_t1 (List.mem_of_getElem? (i := 179) rfl) rfl
theorem q256 : (Cond.methodLink RX5 3 objectInit : Cond) ∈ lw_all := lw_t1 (List.mem_of_getElem? (i := 180) rfl) rfl
theorem q257 : (Cond.classLink RX5 9 "Katacode$Program" : Cond) ∈ lw_all := lw_t1 (List.mem_of_getElem? (i := 181) rfl) rfl
theorem q258 : (Cond.methodLink RX5 11 yX3_init : Cond) ∈ lw_all := lw_t1 (List.mem_of_getElem? (i := 182) rfl) rfl
theorem q259 : (Cond.fieldLink RX5 12 "Katacode$Work" "body" "LKatacode$Program;" : Cond) ∈ lw_all := lw_t1 (List.mem_of_getElem? (i := 183) rfl) rfl
theorem q260 : (Cond.fieldLink RX6 255 "Katacode$Work" "body" "LKatacode$Program;" : Cond) ∈ lw_all := lw_t1 (List.mem_of_getElem? (i := 184) rfl) rfl
theorem q261 : (Cond.fieldLink RX5 18 "Katacode$Work" "keptSteps" "[I" : Cond) ∈ lw_all := lw_t1 (List.mem_of_getElem? (i := 185) rfl) rfl
theorem q262 : (Cond.fieldLink RX6 435 "Katacode$Work" "keptSteps" "[I" : Cond) ∈ lw_all := lw_t1 (List.mem_of_getElem? (i := 186) rfl) rfl
theorem q263 : (Cond.fieldLink RX5 22 "Katacode$Work" "votes" "[I" : Cond) ∈ lw_all := lw_t1 (List.mem_of_getElem? (i := 187) rfl) rfl
theorem q264 : (Cond.fieldLink RX6 312 "Katacode$Work" "votes" "[I" : Cond) ∈ lw_all := lw_t1 (List.mem_of_getElem? (i := 188) rfl) rfl
theorem q265 : (Cond.fieldLink RX5 25 "Katacode$Work" "weights" "[I" : Cond) ∈ lw_all := lw_t1 (List.mem_of_getElem? (i := 189) rfl) rfl
theorem q266 : (Cond.fieldLink RX5 28 "Katacode$Work" "voteCount" "I" : Cond) ∈ lw_all := lw_t1 (List.mem_of_getElem? (i := 190) rfl) rfl
theorem q267 : (Cond.fieldLink RX6 230 "Katacode$Work" "voteCount" "I" : Cond) ∈ lw_all := lw_t1 (List.mem_of_getElem? (i := 191) rfl) rfl
theorem q268 : (Cond.fieldLink RX5 32 "Katacode$Work" "weightSum" "I" : Cond) ∈ lw_all := lw_t1 (List.mem_of_getElem? (i := 192) rfl) rfl
theorem q269 : (Cond.fieldLink RX6 233 "Katacode$Work" "weightSum" "I" : Cond) ∈ lw_all := lw_t1 (List.mem_of_getElem? (i := 193) rfl) rfl
theorem q270 : (Cond.fieldLink RX5 35 "Katacode$Work" "votesTimesWeights" "I" : Cond) ∈ lw_all := lw_t1 (List.mem_of_getElem? (i := 194) rfl) rfl
theorem q271 : (Cond.fieldLink RX6 382 "Katacode$Work" "votesTimesWeights" "I" : Cond) ∈ lw_all := lw_t1 (List.mem_of_getElem? (i := 195) rfl) rfl
theorem q272 : (Cond.fieldLink RX5 38 "Katacode$Work" "owner" "I" : Cond) ∈ lw_all := lw_t1 (List.mem_of_getElem? (i := 196) rfl) rfl
theorem q273 : (Cond.fieldLink RX6 223 "Katacode$Work" "owner" "I" : Cond) ∈ lw_all := lw_t1 (List.mem_of_getElem? (i := 197) rfl) rfl
theorem q274 : (Cond.fieldLink RX5 41 "Katacode$Work" "kata" "I" : Cond) ∈ lw_all := lw_t1 (List.mem_of_getElem? (i := 198) rfl) rfl
theorem q275 : (Cond.fieldLink RX6 226 "Katacode$Work" "kata" "I" : Cond) ∈ lw_all := lw_t1 (List.mem_of_getElem? (i := 199) rfl) rfl
theorem q276 : (Cond.fieldLink RX5 44 "Katacode$Work" "length" "I" : Cond) ∈ lw_all := lw_t1 (List.mem_of_getElem? (i := 200) rfl) rfl
theorem q277 : (Cond.fieldLink RX6 229 "Katacode$Work" "length" "I" : Cond) ∈ lw_all := lw_t1 (List.mem_of_getElem? (i := 201) rfl) rfl
theorem q278 : (Cond.fieldLink RX5 47 "Katacode$Work" "sum" "J" : Cond) ∈ lw_all := lw_t1 (List.mem_of_getElem? (i := 202) rfl) rfl
theorem q279 : (Cond.fieldLink RX6 242 "Katacode$Work" "sum" "J" : Cond) ∈ lw_all := lw_t1 (List.mem_of_getElem? (i := 203) rfl) rfl
theorem q280 : (Cond.fieldLink RX5 51 "Katacode$Work" "state" "C" : Cond) ∈ lw_all := lw_t1 (List.mem_of_getElem? (i := 204) rfl) rfl
theorem q281 : (Cond.fieldLink RX6 238 "Katacode$Work" "state" "C" : Cond) ∈ lw_all := lw_t1 (List.mem_of_getElem? (i := 205) rfl) rfl
theorem q282 : (Cond.fieldLink RX5 55 "Katacode$Work" "isBodied" "Z" : Cond) ∈ lw_all := lw_t1 (List.mem_of_getElem? (i := 206) rfl) rfl
theorem q283 : (Cond.fieldLink RX6 252 "Katacode$Work" "isBodied" "Z" : Cond) ∈ lw_all := lw_t1 (List.mem_of_getElem? (i := 207) rfl) rfl
theorem q284 : (Cond.fieldLink RX5 59 "Katacode$Work" "keptCount" "I" : Cond) ∈ lw_all := lw_t1 (List.mem_of_getElem? (i := 208) rfl) rfl
theorem q285 : (Cond.fieldLink RX6 432 "Katacode$Work" "keptCount" "I" : Cond) ∈ lw_all := lw_t1 (List.mem_of_getElem? (i := 209) rfl) rfl
theorem q286 : (Cond.fieldLink RX5 62 "Katacode$Work" "keptAt" "I" : Cond) ∈ lw_all := lw_t1 (List.mem_of_getElem? (i := 210) rfl) rfl
theorem q287 : (Cond.fieldLink RX6 444 "Katacode$Work" "keptAt" "I" : Cond) ∈ lw_all := lw_t1 (List.mem_of_getElem? (i := 211) rfl) rfl
theorem q288 : (Cond.fieldLink RX5 65 "Katacode$Work" "challenger" "I" : Cond) ∈ lw_all := lw_t1 (List.mem_of_getElem? (i := 212) rfl) rfl
theorem q289 : (Cond.fieldLink RX6 344 "Katacode$Work" "challenger" "I" : Cond) ∈ lw_all := lw_t1 (List.mem_of_getElem? (i := 213) rfl) rfl
theorem q290 : (Cond.fieldLink RX5 68 "Katacode$Work" "daysLeft" "I" : Cond) ∈ lw_all := lw_t1 (List.mem_of_getElem? (i := 214) rfl) rfl
theorem q291 : (Cond.fieldLink RX6 347 "Katacode$Work" "daysLeft" "I" : Cond) ∈ lw_all := lw_t1 (List.mem_of_getElem? (i := 215) rfl) rfl
theorem q327 : (Cond.fieldLink RX6 10 "Katacode" "typed" "LKatacode$Program;" : Cond) ∈ lw_all := lw_t2 (List.mem_of_getElem? (i := 11) rfl) rfl
theorem q328 : (Cond.fieldLink RX6 19 "Katacode" "draft" "LKatacode$Test;" : Cond) ∈ lw_all := lw_t2 (List.mem_of_getElem? (i := 12) rfl) rfl
theorem q329 : (Cond.fieldLink RX6 25 "Katacode" "katas" "[LKatacode$Kata;" : Cond) ∈ lw_all := lw_t2 (List.mem_of_getElem? (i := 13) rfl) rfl
theorem q330 : (Cond.fieldLink RX6 31 "Katacode" "members" "[LKatacode$Member;" : Cond) ∈ lw_all := lw_t2 (List.mem_of_getElem? (i := 14) rfl) rfl
theorem q331 : (Cond.fieldLink RX6 37 "Katacode" "works" "[LKatacode$Work;" : Cond) ∈ lw_all := lw_t2 (List.mem_of_getElem? (i := 15) rfl) rfl
theorem q332 : (Cond.fieldLink RX6 41 "Katacode" "openWorks" "[I" : Cond) ∈ lw_all := lw_t2 (List.mem_of_getElem? (i := 16) rfl) rfl
theorem q333 : (Cond.fieldLink RX6 45 "Katacode" "takenRow" "[I" : Cond) ∈ lw_all := lw_t2 (List.mem_of_getElem? (i := 17) rfl) rfl
theorem q334 : (Cond.fieldLink RX6 51 "Katacode" "shown" "LKatacode$Machine;" : Cond) ∈ lw_all := lw_t2 (List.mem_of_getElem? (i := 18) rfl) rfl
theorem q335 : (Cond.fieldLink RX6 55 "Katacode" "judge" "LKatacode$Machine;" : Cond) ∈ lw_all := lw_t2 (List.mem_of_getElem? (i := 19) rfl) rfl
theorem q336 : (Cond.fieldLink RX6 58 "Katacode" "kataCount" "I" : Cond) ∈ lw_all := lw_t2 (List.mem_of_getElem? (i := 20) rfl) rfl
theorem q337 : (Cond.fieldLink RX6 62 "Katacode" "memberCount" "I" : Cond) ∈ lw_all := lw_t2 (List.mem_of_getElem? (i := 21) rfl) rfl
theorem q338 : (Cond.fieldLink RX6 65 "Katacode" "workCount" "I" : Cond) ∈ lw_all := lw_t2 (List.mem_of_getElem? (i := 22) rfl) rfl
theorem q339 : (Cond.fieldLink RX6 68 "Katacode" "openCount" "I" : Cond) ∈ lw_all := lw_t2 (List.mem_of_getElem? (i := 23) rfl) rfl
theorem q340 : (Cond.fieldLink RX6 71 "Katacode" "room" "I" : Cond) ∈ lw_all := lw_t2 (List.mem_of_getElem? (i := 24) rfl) rfl
theorem q341 : (Cond.fieldLink RX6 74 "Katacode" "testChanges" "I" : Cond) ∈ lw_all := lw_t2 (List.mem_of_getElem? (i := 25) rfl) rfl
theorem q342 : (Cond.fieldLink RX6 77 "Katacode" "hasRun" "Z" : Cond) ∈ lw_all := lw_t2 (List.mem_of_getElem? (i := 26) rfl) rfl
theorem q376 : (Cond.methodLink RL 163 yX6_wipe : Cond) ∈ lw_all := lw_t2 (List.mem_of_getElem? (i := 60) rfl) rfl
theorem q377 : (Cond.instanceMethod yX6_wipe : Cond) ∈ lw_all := lw_t2 (List.mem_of_getElem? (i := 61) rfl) rfl
theorem q378 : (Cond.selects RX6 yX6_wipe yX6_wipe : Cond) ∈ lw_all := lw_t2 (List.mem_of_getElem? (i := 62) rfl) rfl
theorem q379 : (Cond.code yX6_wipe cX6_wipe 2 (some .int) : Cond) ∈ lw_all := lw_t2 (List.mem_of_getElem? (i := 63) rfl) rfl
theorem q380 : (Cond.methodLink RX6 117 yX3_erase : Cond) ∈ lw_all := lw_t2 (List.mem_of_getElem? (i := 64) rfl) rfl
theorem q381 : (Cond.instanceMethod yX3_erase : Cond) ∈ lw_all := lw_t2 (List.mem_of_getElem? (i := 65) rfl) rfl
theorem q382 : (Cond.selects RX3 yX3_erase yX3_erase : Cond) ∈ lw_all := lw_t2 (List.mem_of_getElem? (i := 66) rfl) rfl
theorem q383 : (Cond.code yX3_erase cX3_erase 1 none : Cond) ∈ lw_all := lw_t2 (List.mem_of_getElem? (i := 67) rfl) rfl
theorem q384 : (Cond.methodLink RL 171 yX6_clear : Cond) ∈ lw_all := lw_t2 (List.mem_of_getElem? (i := 68) rfl) rfl
theorem q385 : (Cond.instanceMethod yX6_clear : Cond) ∈ lw_all := lw_t2 (List.mem_of_getElem? (i := 69) rfl) rfl
theorem q386 : (Cond.selects RX6 yX6_clear yX6_clear : Cond) ∈ lw_all := lw_t2 (List.mem_of_getElem? (i := 70) rfl) rfl
theorem q387 : (Cond.code yX6_clear cX6_clear 2 (some .int) : Cond) ∈ lw_all := lw_t2 (List.mem_of_getElem? (i := 71) rfl) rfl
theorem q388 : (Cond.methodLink RX6 134 yX4_erase : Cond) ∈ lw_all := lw_t2 (List.mem_of_getElem? (i := 72) rfl) rfl
theorem q389 : (Cond.instanceMethod yX4_erase : Cond) ∈ lw_all := lw_t2 (List.mem_of_getElem? (i := 73) rfl) rfl
theorem q390 : (Cond.selects RX4 yX4_erase yX4_erase : Cond) ∈ lw_all := lw_t2 (List.mem_of_getElem? (i := 74) rfl) rfl
theorem q391 : (Cond.code yX4_erase cX4_erase 1 none : Cond) ∈ lw_all := lw_t2 (List.mem_of_getElem? (i := 75) rfl) rfl
theorem q392 : (Cond.methodLink RL 214 yX6_works : Cond) ∈ lw_all := lw_t2 (List.mem_of_getElem? (i := 76) rfl) rfl
theorem q393 : (Cond.instanceMethod yX6_works : Cond) ∈ lw_all := lw_t2 (List.mem_of_getElem? (i := 77) rfl) rfl
theorem q394 : (Cond.selects RX6 yX6_works yX6_works : Cond) ∈ lw_all := lw_t2 (List.mem_of_getElem? (i := 78) rfl) rfl
theorem q395 : (Cond.code yX6_works cX6_works 1 (some .int) : Cond) ∈ lw_all := lw_t2 (List.mem_of_getElem? (i := 79) rfl) rfl
theorem q396 : (Cond.methodLink RL 243 yX6_bodies : Cond) ∈ lw_all := lw_t2 (List.mem_of_getElem? (i := 80) rfl) rfl
theorem q397 : (Cond.instanceMethod yX6_bodies : Cond) ∈ lw_all := lw_t2 (List.mem_of_getElem? (i := 81) rfl) rfl
theorem q398 : (Cond.selects RX6 yX6_bodies yX6_bodies : Cond) ∈ lw_all := lw_t2 (List.mem_of_getElem? (i := 82) rfl) rfl
theorem q399 : (Cond.code yX6_bodies cX6_bodies 1 (some .int) : Cond) ∈ lw_all := lw_t2 (List.mem_of_getElem? (i := 83) rfl) rfl
theorem q400 : (Cond.methodLink RX6 270 yX6_bodyCount : Cond) ∈ lw_all := lw_t2 (List.mem_of_getElem? (i := 84) rfl) rfl
theorem q402 : (Cond.instanceMethod yX6_bodyCount : Cond) ∈ lw_all := lw_t2 (List.mem_of_getElem? (i := 86) rfl) rfl
theorem q403 : (Cond.code yX6_bodyCount cX6_bodyCount 3 (some .int) : Cond) ∈ lw_all := lw_t2 (List.mem_of_getElem? (i := 87) rfl) rfl
theorem q404 : (Cond.methodLink RL 297 yX6_checksum : Cond) ∈ lw_all := lw_t2 (List.mem_of_getElem? (i := 88) rfl) rfl
theorem q405 : (Cond.instanceMethod yX6_checksum : Cond) ∈ lw_all := lw_t2 (List.mem_of_getElem? (i := 89) rfl) rfl
theorem q406 : (Cond.selects RX6 yX6_checksum yX6_checksum : Cond) ∈ lw_all := lw_t2 (List.mem_of_getElem? (i := 90) rfl) rfl
theorem q407 : (Cond.code yX6_checksum cX6_checksum 4 (some .long) : Cond) ∈ lw_all := lw_t2 (List.mem_of_getElem? (i := 91) rfl) rfl
theorem q408 : (Cond.constantLong RX6 378 (7) : Cond) ∈ lw_all := lw_t2 (List.mem_of_getElem? (i := 92) rfl) rfl
theorem q409 : (Cond.constantLong RX6 380 (31) : Cond) ∈ lw_all := lw_t2 (List.mem_of_getElem? (i := 93) rfl) rfl
theorem q410 : (Cond.methodLink RL 309 yX6_isSound : Cond) ∈ lw_all := lw_t2 (List.mem_of_getElem? (i := 94) rfl) rfl
theorem q411 : (Cond.instanceMethod yX6_isSound : Cond) ∈ lw_all := lw_t2 (List.mem_of_getElem? (i := 95) rfl) rfl
theorem q412 : (Cond.selects RX6 yX6_isSound yX6_isSound : Cond) ∈ lw_all := lw_t2 (List.mem_of_getElem? (i := 96) rfl) rfl
theorem q413 : (Cond.code yX6_isSound cX6_isSound 1 (some .boolean) : Cond) ∈ lw_all := lw_t2 (List.mem_of_getElem? (i := 97) rfl) rfl
theorem q414 : (Cond.methodLink RX6 395 yX6_areBodiesSound : Cond) ∈ lw_all := lw_t2 (List.mem_of_getElem? (i := 98) rfl) rfl
theorem q416 : (Cond.instanceMethod yX6_areBodiesSound : Cond) ∈ lw_all := lw_t2 (List.mem_of_getElem? (i := 100) rfl) rfl
theorem q417 : (Cond.code yX6_areBodiesSound cX6_areBodiesSound 3 (some .boolean) : Cond) ∈ lw_all := lw_t2 (List.mem_of_getElem? (i := 101) rfl) rfl
theorem q418 : (Cond.methodLink RX6 461 yX3_sumOfAll : Cond) ∈ lw_all := lw_t2 (List.mem_of_getElem? (i := 102) rfl) rfl
theorem q419 : (Cond.instanceMethod yX3_sumOfAll : Cond) ∈ lw_all := lw_t2 (List.mem_of_getElem? (i := 103) rfl) rfl
theorem q420 : (Cond.selects RX3 yX3_sumOfAll yX3_sumOfAll : Cond) ∈ lw_all := lw_t2 (List.mem_of_getElem? (i := 104) rfl) rfl
theorem q421 : (Cond.code yX3_sumOfAll cX3_sumOfAll 4 (some .long) : Cond) ∈ lw_all := lw_t2 (List.mem_of_getElem? (i := 105) rfl) rfl
theorem q422 : (Cond.constantLong RX3 23 (17) : Cond) ∈ lw_all := lw_t2 (List.mem_of_getElem? (i := 106) rfl) rfl
theorem q423 : (Cond.constantLong RX3 25 (31) : Cond) ∈ lw_all := lw_t2 (List.mem_of_getElem? (i := 107) rfl) rfl
theorem q424 : (Cond.methodLink RX6 424 yX6_verdictOn : Cond) ∈ lw_all := lw_t2 (List.mem_of_getElem? (i := 108) rfl) rfl
theorem q426 : (Cond.instanceMethod yX6_verdictOn : Cond) ∈ lw_all := lw_t2 (List.mem_of_getElem? (i := 110) rfl) rfl
theorem q427 : (Cond.code yX6_verdictOn cX6_verdictOn 2 (some .char) : Cond) ∈ lw_all := lw_t2 (List.mem_of_getElem? (i := 111) rfl) rfl
theorem q428 : (Cond.methodLink RX6 207 yX6_passesAll : Cond) ∈ lw_all := lw_t2 (List.mem_of_getElem? (i := 112) rfl) rfl
theorem q430 : (Cond.instanceMethod yX6_passesAll : Cond) ∈ lw_all := lw_t2 (List.mem_of_getElem? (i := 114) rfl) rfl
theorem q431 : (Cond.code yX6_passesAll cX6_passesAll 4 (some .boolean) : Cond) ∈ lw_all := lw_t2 (List.mem_of_getElem? (i := 115) rfl) rfl
theorem q432 : (Cond.methodLink RX6 172 yX1_execute : Cond) ∈ lw_all := lw_t2 (List.mem_of_getElem? (i := 116) rfl) rfl
theorem q433 : (Cond.instanceMethod yX1_execute : Cond) ∈ lw_all := lw_t2 (List.mem_of_getElem? (i := 117) rfl) rfl
theorem q434 : (Cond.selects RX1 yX1_execute yX1_execute : Cond) ∈ lw_all := lw_t2 (List.mem_of_getElem? (i := 118) rfl) rfl
theorem q435 : (Cond.code yX1_execute cX1_execute 6 (some .char) : Cond) ∈ lw_all := lw_t2 (List.mem_of_getElem? (i := 119) rfl) rfl
theorem q436 : (Cond.methodLink RX1 40 yX1_pairBrackets : Cond) ∈ lw_all := lw_t2 (List.mem_of_getElem? (i := 120) rfl) rfl
theorem q438 : (Cond.instanceMethod yX1_pairBrackets : Cond) ∈ lw_all := lw_t2 (List.mem_of_getElem? (i := 122) rfl) rfl
theorem q439 : (Cond.code yX1_pairBrackets cX1_pairBrackets 4 none : Cond) ∈ lw_all := lw_t2 (List.mem_of_getElem? (i := 123) rfl) rfl
theorem q440 : (Cond.methodLink RX1 53 yX1_errorOf : Cond) ∈ lw_all := lw_t2 (List.mem_of_getElem? (i := 124) rfl) rfl
theorem q442 : (Cond.instanceMethod yX1_errorOf : Cond) ∈ lw_all := lw_t2 (List.mem_of_getElem? (i := 126) rfl) rfl
theorem q443 : (Cond.code yX1_errorOf cX1_errorOf 4 (some .char) : Cond) ∈ lw_all := lw_t2 (List.mem_of_getElem? (i := 127) rfl) rfl
theorem q444 : (Cond.methodLink RX1 68 yX1_neededBy : Cond) ∈ lw_all := lw_t2 (List.mem_of_getElem? (i := 128) rfl) rfl
theorem q445 : (Cond.static yX1_neededBy : Cond) ∈ lw_all := lw_t2 (List.mem_of_getElem? (i := 129) rfl) rfl
theorem q446 : (Cond.code yX1_neededBy cX1_neededBy 1 (some .int) : Cond) ∈ lw_all := lw_t2 (List.mem_of_getElem? (i := 130) rfl) rfl
theorem q447 : (Cond.methodLink RX1 77 yX1_numberUnder : Cond) ∈ lw_all := lw_t2 (List.mem_of_getElem? (i := 131) rfl) rfl
theorem q449 : (Cond.instanceMethod yX1_numberUnder : Cond) ∈ lw_all := lw_t2 (List.mem_of_getElem? (i := 133) rfl) rfl
theorem q450 : (Cond.code yX1_numberUnder cX1_numberUnder 3 (some .int) : Cond) ∈ lw_all := lw_t2 (List.mem_of_getElem? (i := 134) rfl) rfl
theorem q451 : (Cond.methodLink RX1 60 yX1_perform : Cond) ∈ lw_all := lw_t2 (List.mem_of_getElem? (i := 135) rfl) rfl
theorem q453 : (Cond.instanceMethod yX1_perform : Cond) ∈ lw_all := lw_t2 (List.mem_of_getElem? (i := 137) rfl) rfl
theorem q454 : (Cond.code yX1_perform cX1_perform 7 none : Cond) ∈ lw_all := lw_t2 (List.mem_of_getElem? (i := 138) rfl) rfl
theorem q455 : (Cond.methodLink RX1 81 yX1_replace : Cond) ∈ lw_all := lw_t2 (List.mem_of_getElem? (i := 139) rfl) rfl
theorem q457 : (Cond.instanceMethod yX1_replace : Cond) ∈ lw_all := lw_t2 (List.mem_of_getElem? (i := 141) rfl) rfl
theorem q458 : (Cond.code yX1_replace cX1_replace 3 none : Cond) ∈ lw_all := lw_t2 (List.mem_of_getElem? (i := 142) rfl) rfl
theorem q459 : (Cond.methodLink RX1 85 yX1_nextInput : Cond) ∈ lw_all := lw_t2 (List.mem_of_getElem? (i := 143) rfl) rfl
theorem q461 : (Cond.instanceMethod yX1_nextInput : Cond) ∈ lw_all := lw_t2 (List.mem_of_getElem? (i := 145) rfl) rfl
theorem q462 : (Cond.code yX1_nextInput cX1_nextInput 2 (some .int) : Cond) ∈ lw_all := lw_t2 (List.mem_of_getElem? (i := 146) rfl) rfl
theorem q463 : (Cond.methodLink RX1 89 yX1_pop : Cond) ∈ lw_all := lw_t2 (List.mem_of_getElem? (i := 147) rfl) rfl
theorem q465 : (Cond.instanceMethod yX1_pop : Cond) ∈ lw_all := lw_t2 (List.mem_of_getElem? (i := 149) rfl) rfl
theorem q466 : (Cond.code yX1_pop cX1_pop 1 none : Cond) ∈ lw_all := lw_t2 (List.mem_of_getElem? (i := 150) rfl) rfl
theorem q467 : (Cond.methodLink RX1 92 yX1_write : Cond) ∈ lw_all := lw_t2 (List.mem_of_getElem? (i := 151) rfl) rfl
theorem q469 : (Cond.instanceMethod yX1_write : Cond) ∈ lw_all := lw_t2 (List.mem_of_getElem? (i := 153) rfl) rfl
theorem q470 : (Cond.code yX1_write cX1_write 2 none : Cond) ∈ lw_all := lw_t2 (List.mem_of_getElem? (i := 154) rfl) rfl
theorem q471 : (Cond.methodLink RX1 64 yX1_isAsExpected : Cond) ∈ lw_all := lw_t2 (List.mem_of_getElem? (i := 155) rfl) rfl
theorem q473 : (Cond.instanceMethod yX1_isAsExpected : Cond) ∈ lw_all := lw_t2 (List.mem_of_getElem? (i := 157) rfl) rfl
theorem q474 : (Cond.code yX1_isAsExpected cX1_isAsExpected 3 (some .boolean) : Cond) ∈ lw_all := lw_t2 (List.mem_of_getElem? (i := 158) rfl) rfl
theorem q475 : (Cond.methodLink RX6 398 yX6_areBeltsSound : Cond) ∈ lw_all := lw_t2 (List.mem_of_getElem? (i := 159) rfl) rfl
theorem q477 : (Cond.instanceMethod yX6_areBeltsSound : Cond) ∈ lw_all := lw_t2 (List.mem_of_getElem? (i := 161) rfl) rfl
theorem q478 : (Cond.code yX6_areBeltsSound cX6_areBeltsSound 2 (some .boolean) : Cond) ∈ lw_all := lw_t2 (List.mem_of_getElem? (i := 162) rfl) rfl
theorem q479 : (Cond.methodLink RX6 469 yX5_areSumsOfVotes : Cond) ∈ lw_all := lw_t2 (List.mem_of_getElem? (i := 163) rfl) rfl
theorem q480 : (Cond.instanceMethod yX5_areSumsOfVotes : Cond) ∈ lw_all := lw_t2 (List.mem_of_getElem? (i := 164) rfl) rfl
theorem q481 : (Cond.selects RX5 yX5_areSumsOfVotes yX5_areSumsOfVotes : Cond) ∈ lw_all := lw_t2 (List.mem_of_getElem? (i := 165) rfl) rfl
theorem q482 : (Cond.code yX5_areSumsOfVotes cX5_areSumsOfVotes 4 (some .boolean) : Cond) ∈ lw_all := lw_t2 (List.mem_of_getElem? (i := 166) rfl) rfl
theorem q483 : (Cond.methodLink RX6 295 yX6_beltOf : Cond) ∈ lw_all := lw_t2 (List.mem_of_getElem? (i := 167) rfl) rfl
theorem q485 : (Cond.instanceMethod yX6_beltOf : Cond) ∈ lw_all := lw_t2 (List.mem_of_getElem? (i := 169) rfl) rfl
theorem q486 : (Cond.code yX6_beltOf cX6_beltOf 2 (some .int) : Cond) ∈ lw_all := lw_t2 (List.mem_of_getElem? (i := 170) rfl) rfl
theorem q487 : (Cond.methodLink RX6 321 yX6_takeWorks : Cond) ∈ lw_all := lw_t2 (List.mem_of_getElem? (i := 171) rfl) rfl
theorem q489 : (Cond.instanceMethod yX6_takeWorks : Cond) ∈ lw_all := lw_t2 (List.mem_of_getElem? (i := 173) rfl) rfl
theorem q490 : (Cond.code yX6_takeWorks cX6_takeWorks 5 none : Cond) ∈ lw_all := lw_t2 (List.mem_of_getElem? (i := 174) rfl) rfl
theorem q491 : (Cond.methodLink RX6 454 yX6_takeNone : Cond) ∈ lw_all := lw_t2 (List.mem_of_getElem? (i := 175) rfl) rfl
theorem q493 : (Cond.instanceMethod yX6_takeNone : Cond) ∈ lw_all := lw_t2 (List.mem_of_getElem? (i := 177) rfl) rfl
theorem q494 : (Cond.code yX6_takeNone cX6_takeNone 2 none : Cond) ∈ lw_all := lw_t2 (List.mem_of_getElem? (i := 178) rfl) rfl
theorem q495 : (Cond.methodLink RX6 390 yX5_isCounted : Cond) ∈ lw_all := lw_t2 (List.mem_of_getElem? (i := 179) rfl) rfl
theorem q496 : (Cond.instanceMethod yX5_isCounted : Cond) ∈ lw_all := lw_t2 (List.mem_of_getElem? (i := 180) rfl) rfl
theorem q497 : (Cond.selects RX5 yX5_isCounted yX5_isCounted : Cond) ∈ lw_all := lw_t2 (List.mem_of_getElem? (i := 181) rfl) rfl
theorem q498 : (Cond.code yX5_isCounted cX5_isCounted 1 (some .boolean) : Cond) ∈ lw_all := lw_t2 (List.mem_of_getElem? (i := 182) rfl) rfl
theorem q499 : (Cond.methodLink RX6 457 yX5_hasGreaterStyleThan : Cond) ∈ lw_all := lw_t2 (List.mem_of_getElem? (i := 183) rfl) rfl
theorem q500 : (Cond.instanceMethod yX5_hasGreaterStyleThan : Cond) ∈ lw_all := lw_t2 (List.mem_of_getElem? (i := 184) rfl) rfl
theorem q501 : (Cond.selects RX5 yX5_hasGreaterStyleThan yX5_hasGreaterStyleThan : Cond) ∈ lw_all := lw_t2 (List.mem_of_getElem? (i := 185) rfl) rfl
theorem q502 : (Cond.code yX5_hasGreaterStyleThan cX5_hasGreaterStyleThan 2 (some .boolean) : Cond) ∈ lw_all := lw_t2 (List.mem_of_getElem? (i := 186) rfl) rfl
theorem q503 : (Cond.methodLink RX5 83 yX5_styleAbove : Cond) ∈ lw_all := lw_t2 (List.mem_of_getElem? (i := 187) rfl) rfl
theorem q504 : (Cond.instanceMethod yX5_styleAbove : Cond) ∈ lw_all := lw_t2 (List.mem_of_getElem? (i := 188) rfl) rfl
theorem q505 : (Cond.selects RX5 yX5_styleAbove yX5_styleAbove : Cond) ∈ lw_all := lw_t2 (List.mem_of_getElem? (i := 189) rfl) rfl
theorem q506 : (Cond.code yX5_styleAbove cX5_styleAbove 1 (some .int) : Cond) ∈ lw_all := lw_t2 (List.mem_of_getElem? (i := 190) rfl) rfl
theorem q507 : (Cond.methodLink RX5 87 yX5_styleUnder : Cond) ∈ lw_all := lw_t2 (List.mem_of_getElem? (i := 191) rfl) rfl
theorem q508 : (Cond.instanceMethod yX5_styleUnder : Cond) ∈ lw_all := lw_t2 (List.mem_of_getElem? (i := 192) rfl) rfl
theorem q509 : (Cond.selects RX5 yX5_styleUnder yX5_styleUnder : Cond) ∈ lw_all := lw_t2 (List.mem_of_getElem? (i := 193) rfl) rfl
theorem q510 : (Cond.code yX5_styleUnder cX5_styleUnder 1 (some .int) : Cond) ∈ lw_all := lw_t2 (List.mem_of_getElem? (i := 194) rfl) rfl
theorem q511 : (Cond.methodLink RX6 451 yX6_takenBelt : Cond) ∈ lw_all := lw_t2 (List.mem_of_getElem? (i := 195) rfl) rfl
theorem q513 : (Cond.instanceMethod yX6_takenBelt : Cond) ∈ lw_all := lw_t2 (List.mem_of_getElem? (i := 197) rfl) rfl
theorem q514 : (Cond.code yX6_takenBelt cX6_takenBelt 5 (some .int) : Cond) ∈ lw_all := lw_t2 (List.mem_of_getElem? (i := 198) rfl) rfl
theorem q515 : (Cond.methodLink RX6 447 yX6_takenPoints : Cond) ∈ lw_all := lw_t2 (List.mem_of_getElem? (i := 199) rfl) rfl
theorem q517 : (Cond.instanceMethod yX6_takenPoints : Cond) ∈ lw_all := lw_t2 (List.mem_of_getElem? (i := 201) rfl) rfl
theorem q518 : (Cond.code yX6_takenPoints cX6_takenPoints 6 (some .float) : Cond) ∈ lw_all := lw_t2 (List.mem_of_getElem? (i := 202) rfl) rfl
theorem q519 : (Cond.methodLink RX6 302 yX5_styleAbove : Cond) ∈ lw_all := lw_t2 (List.mem_of_getElem? (i := 203) rfl) rfl
theorem q520 : (Cond.methodLink RX6 305 yX5_styleUnder : Cond) ∈ lw_all := lw_t2 (List.mem_of_getElem? (i := 204) rfl) rfl
theorem q521 : (Cond.methodLink RX6 472 yX6_beltFromBehind : Cond) ∈ lw_all := lw_t2 (List.mem_of_getElem? (i := 205) rfl) rfl
theorem q523 : (Cond.instanceMethod yX6_beltFromBehind : Cond) ∈ lw_all := lw_t2 (List.mem_of_getElem? (i := 207) rfl) rfl
theorem q524 : (Cond.code yX6_beltFromBehind cX6_beltFromBehind 5 (some .int) : Cond) ∈ lw_all := lw_t2 (List.mem_of_getElem? (i := 208) rfl) rfl
theorem q525 : (Cond.methodLink RX6 401 yX6_areChallengesSound : Cond) ∈ lw_all := lw_t2 (List.mem_of_getElem? (i := 209) rfl) rfl
theorem q527 : (Cond.instanceMethod yX6_areChallengesSound : Cond) ∈ lw_all := lw_t2 (List.mem_of_getElem? (i := 211) rfl) rfl
theorem q528 : (Cond.code yX6_areChallengesSound cX6_areChallengesSound 3 (some .boolean) : Cond) ∈ lw_all := lw_t2 (List.mem_of_getElem? (i := 212) rfl) rfl
theorem q529 : (Cond.methodLink RX6 475 yX6_isOpenTwice : Cond) ∈ lw_all := lw_t2 (List.mem_of_getElem? (i := 213) rfl) rfl
theorem q531 : (Cond.instanceMethod yX6_isOpenTwice : Cond) ∈ lw_all := lw_t2 (List.mem_of_getElem? (i := 215) rfl) rfl
theorem q532 : (Cond.code yX6_isOpenTwice cX6_isOpenTwice 3 (some .boolean) : Cond) ∈ lw_all := lw_t2 (List.mem_of_getElem? (i := 216) rfl) rfl
theorem q533 : (Cond.methodLink RL 157 yL_step : Cond) ∈ lw_all := lw_t2 (List.mem_of_getElem? (i := 217) rfl) rfl
theorem q534 : (Cond.static yL_step : Cond) ∈ lw_all := lw_t2 (List.mem_of_getElem? (i := 218) rfl) rfl
theorem q535 : (Cond.codeWith yL_step cL_step 5 (some .int) [(0, 10, 13, 13), (0, 10, 17, 15)] : Cond) ∈ lw_all := lw_t2 (List.mem_of_getElem? (i := 219) rfl) rfl
theorem q536 : (Cond.classLink RL 13 "java/lang/IllegalArgumentException" : Cond) ∈ lw_all := lw_t2 (List.mem_of_getElem? (i := 220) rfl) rfl
theorem q537 : (Cond.classLink RL 15 "java/lang/IllegalStateException" : Cond) ∈ lw_all := lw_t2 (List.mem_of_getElem? (i := 221) rfl) rfl
theorem q538 : (Cond.methodLink RL 7 yX6_step : Cond) ∈ lw_all := lw_t2 (List.mem_of_getElem? (i := 222) rfl) rfl
theorem q539 : (Cond.instanceMethod yX6_step : Cond) ∈ lw_all := lw_t2 (List.mem_of_getElem? (i := 223) rfl) rfl
theorem q540 : (Cond.selects RX6 yX6_step yX6_step : Cond) ∈ lw_all := lw_t2 (List.mem_of_getElem? (i := 224) rfl) rfl
theorem q541 : (Cond.code yX6_step cX6_step 4 (some .int) : Cond) ∈ lw_all := lw_t2 (List.mem_of_getElem? (i := 225) rfl) rfl
theorem q543 : (Cond.methodLink RX6 86 yJ0_indexOf_0f7a4 : Cond) ∈ lw_all := lw_t2 (List.mem_of_getElem? (i := 227) rfl) rfl
theorem q544 : (Cond.instanceMethod yJ0_indexOf_0f7a4 : Cond) ∈ lw_all := lw_t2 (List.mem_of_getElem? (i := 228) rfl) rfl
theorem q545 : (Cond.selects RJ0 yJ0_indexOf_0f7a4 yJ0_indexOf_0f7a4 : Cond) ∈ lw_all := lw_t2 (List.mem_of_getElem? (i := 229) rfl) rfl
theorem q629 : (Cond.classLink RX6 92 "java/lang/IllegalArgumentException" : Cond) ∈ lw_all := lw_t3 (List.mem_of_getElem? (i := 73) rfl) rfl
theorem q701 : (Cond.methodLink RX6 99 yX6_isOutOfRange : Cond) ∈ lw_all := lw_t3 (List.mem_of_getElem? (i := 145) rfl) rfl
theorem q702 : (Cond.static yX6_isOutOfRange : Cond) ∈ lw_all := lw_t3 (List.mem_of_getElem? (i := 146) rfl) rfl
theorem q703 : (Cond.code yX6_isOutOfRange cX6_isOutOfRange 1 (some .boolean) : Cond) ∈ lw_all := lw_t3 (List.mem_of_getElem? (i := 147) rfl) rfl
theorem q705 : (Cond.classLink RX6 108 "java/lang/IllegalStateException" : Cond) ∈ lw_all := lw_t3 (List.mem_of_getElem? (i := 149) rfl) rfl
theorem q721 : (Cond.methodLink RX6 113 yX3_append : Cond) ∈ lw_all := lw_t3 (List.mem_of_getElem? (i := 165) rfl) rfl
theorem q722 : (Cond.instanceMethod yX3_append : Cond) ∈ lw_all := lw_t3 (List.mem_of_getElem? (i := 166) rfl) rfl
theorem q723 : (Cond.selects RX3 yX3_append yX3_append : Cond) ∈ lw_all := lw_t3 (List.mem_of_getElem? (i := 167) rfl) rfl
theorem q724 : (Cond.code yX3_append cX3_append 3 none : Cond) ∈ lw_all := lw_t3 (List.mem_of_getElem? (i := 168) rfl) rfl
theorem q725 : (Cond.methodLink RL 167 yL_number : Cond) ∈ lw_all := lw_t3 (List.mem_of_getElem? (i := 169) rfl) rfl
theorem q726 : (Cond.static yL_number : Cond) ∈ lw_all := lw_t3 (List.mem_of_getElem? (i := 170) rfl) rfl
theorem q727 : (Cond.codeWith yL_number cL_number 5 (some .int) [(0, 10, 13, 13), (0, 10, 17, 15)] : Cond) ∈ lw_all := lw_t3 (List.mem_of_getElem? (i := 171) rfl) rfl
theorem q728 : (Cond.methodLink RL 17 yX6_number : Cond) ∈ lw_all := lw_t3 (List.mem_of_getElem? (i := 172) rfl) rfl
theorem q729 : (Cond.instanceMethod yX6_number : Cond) ∈ lw_all := lw_t3 (List.mem_of_getElem? (i := 173) rfl) rfl
theorem q730 : (Cond.selects RX6 yX6_number yX6_number : Cond) ∈ lw_all := lw_t3 (List.mem_of_getElem? (i := 174) rfl) rfl
theorem q731 : (Cond.code yX6_number cX6_number 3 (some .int) : Cond) ∈ lw_all := lw_t3 (List.mem_of_getElem? (i := 175) rfl) rfl
theorem q733 : (Cond.methodLink RX6 128 yX4_addExpected : Cond) ∈ lw_all := lw_t3 (List.mem_of_getElem? (i := 177) rfl) rfl
theorem q734 : (Cond.instanceMethod yX4_addExpected : Cond) ∈ lw_all := lw_t3 (List.mem_of_getElem? (i := 178) rfl) rfl
theorem q735 : (Cond.selects RX4 yX4_addExpected yX4_addExpected : Cond) ∈ lw_all := lw_t3 (List.mem_of_getElem? (i := 179) rfl) rfl
theorem q736 : (Cond.code yX4_addExpected cX4_addExpected 2 (some .int) : Cond) ∈ lw_all := lw_t3 (List.mem_of_getElem? (i := 180) rfl) rfl
theorem q737 : (Cond.methodLink RX6 131 yX4_addInput : Cond) ∈ lw_all := lw_t3 (List.mem_of_getElem? (i := 181) rfl) rfl
theorem q738 : (Cond.instanceMethod yX4_addInput : Cond) ∈ lw_all := lw_t3 (List.mem_of_getElem? (i := 182) rfl) rfl
theorem q739 : (Cond.selects RX4 yX4_addInput yX4_addInput : Cond) ∈ lw_all := lw_t3 (List.mem_of_getElem? (i := 183) rfl) rfl
theorem q740 : (Cond.code yX4_addInput cX4_addInput 2 (some .int) : Cond) ∈ lw_all := lw_t3 (List.mem_of_getElem? (i := 184) rfl) rfl
theorem q741 : (Cond.methodLink RL 175 yL_kata : Cond) ∈ lw_all := lw_t3 (List.mem_of_getElem? (i := 185) rfl) rfl
theorem q742 : (Cond.static yL_kata : Cond) ∈ lw_all := lw_t3 (List.mem_of_getElem? (i := 186) rfl) rfl
theorem q743 : (Cond.codeWith yL_kata cL_kata 4 (some .int) [(0, 9, 12, 13), (0, 9, 15, 15)] : Cond) ∈ lw_all := lw_t3 (List.mem_of_getElem? (i := 187) rfl) rfl
theorem q744 : (Cond.methodLink RL 21 yX6_kata : Cond) ∈ lw_all := lw_t3 (List.mem_of_getElem? (i := 188) rfl) rfl
theorem q745 : (Cond.instanceMethod yX6_kata : Cond) ∈ lw_all := lw_t3 (List.mem_of_getElem? (i := 189) rfl) rfl
theorem q746 : (Cond.selects RX6 yX6_kata yX6_kata : Cond) ∈ lw_all := lw_t3 (List.mem_of_getElem? (i := 190) rfl) rfl
theorem q747 : (Cond.code yX6_kata cX6_kata 2 (some .int) : Cond) ∈ lw_all := lw_t3 (List.mem_of_getElem? (i := 191) rfl) rfl
theorem q750 : (Cond.methodLink RL 179 yL_test : Cond) ∈ lw_all := lw_t3 (List.mem_of_getElem? (i := 194) rfl) rfl
theorem q751 : (Cond.static yL_test : Cond) ∈ lw_all := lw_t3 (List.mem_of_getElem? (i := 195) rfl) rfl
theorem q752 : (Cond.codeWith yL_test cL_test 4 (some .int) [(0, 9, 12, 28), (0, 9, 15, 15)] : Cond) ∈ lw_all := lw_t3 (List.mem_of_getElem? (i := 196) rfl) rfl
theorem q753 : (Cond.classLink RL 28 "java/lang/IndexOutOfBoundsException" : Cond) ∈ lw_all := lw_t3 (List.mem_of_getElem? (i := 197) rfl) rfl
theorem q777 : (Cond.methodLink RL 25 yX6_test : Cond) ∈ lw_all := lw_t3 (List.mem_of_getElem? (i := 221) rfl) rfl
theorem q778 : (Cond.instanceMethod yX6_test : Cond) ∈ lw_all := lw_t3 (List.mem_of_getElem? (i := 222) rfl) rfl
theorem q779 : (Cond.selects RX6 yX6_test yX6_test : Cond) ∈ lw_all := lw_t3 (List.mem_of_getElem? (i := 223) rfl) rfl
theorem q780 : (Cond.code yX6_test cX6_test 4 (some .int) : Cond) ∈ lw_all := lw_t3 (List.mem_of_getElem? (i := 224) rfl) rfl
theorem q781 : (Cond.methodLink RX6 142 yX6_kataAt : Cond) ∈ lw_all := lw_t3 (List.mem_of_getElem? (i := 225) rfl) rfl
theorem q783 : (Cond.instanceMethod yX6_kataAt : Cond) ∈ lw_all := lw_t3 (List.mem_of_getElem? (i := 227) rfl) rfl
theorem q784 : (Cond.code yX6_kataAt cX6_kataAt 2 (some (.object "Katacode$Kata")) : Cond) ∈ lw_all := lw_t3 (List.mem_of_getElem? (i := 228) rfl) rfl
theorem q785 : (Cond.classLink RX6 404 "java/lang/IndexOutOfBoundsException" : Cond) ∈ lw_all := lw_t3 (List.mem_of_getElem? (i := 229) rfl) rfl
theorem q799 : (Cond.methodLink RX6 155 yX6_setTest : Cond) ∈ lw_all := lw_t4 (List.mem_of_getElem? (i := 3) rfl) rfl
theorem q801 : (Cond.instanceMethod yX6_setTest : Cond) ∈ lw_all := lw_t4 (List.mem_of_getElem? (i := 5) rfl) rfl
theorem q802 : (Cond.code yX6_setTest cX6_setTest 7 (some .int) : Cond) ∈ lw_all := lw_t4 (List.mem_of_getElem? (i := 6) rfl) rfl
theorem q803 : (Cond.methodLink RX6 417 yX4_take : Cond) ∈ lw_all := lw_t4 (List.mem_of_getElem? (i := 7) rfl) rfl
theorem q804 : (Cond.instanceMethod yX4_take : Cond) ∈ lw_all := lw_t4 (List.mem_of_getElem? (i := 8) rfl) rfl
theorem q805 : (Cond.selects RX4 yX4_take yX4_take : Cond) ∈ lw_all := lw_t4 (List.mem_of_getElem? (i := 9) rfl) rfl
theorem q806 : (Cond.code yX4_take cX4_take 3 none : Cond) ∈ lw_all := lw_t4 (List.mem_of_getElem? (i := 10) rfl) rfl
theorem q807 : (Cond.methodLink RL 182 yL_fix : Cond) ∈ lw_all := lw_t4 (List.mem_of_getElem? (i := 11) rfl) rfl
theorem q808 : (Cond.static yL_fix : Cond) ∈ lw_all := lw_t4 (List.mem_of_getElem? (i := 12) rfl) rfl
theorem q809 : (Cond.codeWith yL_fix cL_fix 5 (some .int) [(0, 10, 13, 28)] : Cond) ∈ lw_all := lw_t4 (List.mem_of_getElem? (i := 13) rfl) rfl
theorem q810 : (Cond.methodLink RL 30 yX6_fix : Cond) ∈ lw_all := lw_t4 (List.mem_of_getElem? (i := 14) rfl) rfl
theorem q811 : (Cond.instanceMethod yX6_fix : Cond) ∈ lw_all := lw_t4 (List.mem_of_getElem? (i := 15) rfl) rfl
theorem q812 : (Cond.selects RX6 yX6_fix yX6_fix : Cond) ∈ lw_all := lw_t4 (List.mem_of_getElem? (i := 16) rfl) rfl
theorem q813 : (Cond.code yX6_fix cX6_fix 3 (some .int) : Cond) ∈ lw_all := lw_t4 (List.mem_of_getElem? (i := 17) rfl) rfl
theorem q814 : (Cond.methodLink RX6 159 yX6_testAt : Cond) ∈ lw_all := lw_t4 (List.mem_of_getElem? (i := 18) rfl) rfl
theorem q816 : (Cond.instanceMethod yX6_testAt : Cond) ∈ lw_all := lw_t4 (List.mem_of_getElem? (i := 20) rfl) rfl
theorem q817 : (Cond.code yX6_testAt cX6_testAt 3 (some (.object "Katacode$Test")) : Cond) ∈ lw_all := lw_t4 (List.mem_of_getElem? (i := 21) rfl) rfl
theorem q819 : (Cond.methodLink RL 186 yL_tests : Cond) ∈ lw_all := lw_t4 (List.mem_of_getElem? (i := 23) rfl) rfl
theorem q820 : (Cond.static yL_tests : Cond) ∈ lw_all := lw_t4 (List.mem_of_getElem? (i := 24) rfl) rfl
theorem q821 : (Cond.codeWith yL_tests cL_tests 4 (some .int) [(0, 9, 12, 28)] : Cond) ∈ lw_all := lw_t4 (List.mem_of_getElem? (i := 25) rfl) rfl
theorem q822 : (Cond.methodLink RL 34 yX6_tests : Cond) ∈ lw_all := lw_t4 (List.mem_of_getElem? (i := 26) rfl) rfl
theorem q823 : (Cond.instanceMethod yX6_tests : Cond) ∈ lw_all := lw_t4 (List.mem_of_getElem? (i := 27) rfl) rfl
theorem q824 : (Cond.selects RX6 yX6_tests yX6_tests : Cond) ∈ lw_all := lw_t4 (List.mem_of_getElem? (i := 28) rfl) rfl
theorem q825 : (Cond.code yX6_tests cX6_tests 2 (some .int) : Cond) ∈ lw_all := lw_t4 (List.mem_of_getElem? (i := 29) rfl) rfl
theorem q826 : (Cond.methodLink RL 189 yL_run : Cond) ∈ lw_all := lw_t4 (List.mem_of_getElem? (i := 30) rfl) rfl
theorem q827 : (Cond.static yL_run : Cond) ∈ lw_all := lw_t4 (List.mem_of_getElem? (i := 31) rfl) rfl
theorem q828 : (Cond.codeWith yL_run cL_run 5 (some .int) [(0, 10, 13, 28), (0, 10, 17, 41)] : Cond) ∈ lw_all := lw_t4 (List.mem_of_getElem? (i := 32) rfl) rfl
theorem q829 : (Cond.classLink RL 41 "java/lang/UnsupportedOperationException" : Cond) ∈ lw_all := lw_t4 (List.mem_of_getElem? (i := 33) rfl) rfl
theorem q830 : (Cond.methodLink RL 37 yX6_run : Cond) ∈ lw_all := lw_t4 (List.mem_of_getElem? (i := 34) rfl) rfl
theorem q831 : (Cond.instanceMethod yX6_run : Cond) ∈ lw_all := lw_t4 (List.mem_of_getElem? (i := 35) rfl) rfl
theorem q832 : (Cond.selects RX6 yX6_run yX6_run : Cond) ∈ lw_all := lw_t4 (List.mem_of_getElem? (i := 36) rfl) rfl
theorem q833 : (Cond.code yX6_run cX6_run 4 (some .char) : Cond) ∈ lw_all := lw_t4 (List.mem_of_getElem? (i := 37) rfl) rfl
theorem q834 : (Cond.methodLink RX6 163 yX3_isWhole : Cond) ∈ lw_all := lw_t4 (List.mem_of_getElem? (i := 38) rfl) rfl
theorem q835 : (Cond.instanceMethod yX3_isWhole : Cond) ∈ lw_all := lw_t4 (List.mem_of_getElem? (i := 39) rfl) rfl
theorem q836 : (Cond.selects RX3 yX3_isWhole yX3_isWhole : Cond) ∈ lw_all := lw_t4 (List.mem_of_getElem? (i := 40) rfl) rfl
theorem q837 : (Cond.code yX3_isWhole cX3_isWhole 3 (some .boolean) : Cond) ∈ lw_all := lw_t4 (List.mem_of_getElem? (i := 41) rfl) rfl
theorem q838 : (Cond.classLink RX6 167 "java/lang/UnsupportedOperationException" : Cond) ∈ lw_all := lw_t4 (List.mem_of_getElem? (i := 42) rfl) rfl
theorem q854 : (Cond.methodLink RL 192 yL_done : Cond) ∈ lw_all := lw_t4 (List.mem_of_getElem? (i := 58) rfl) rfl
theorem q855 : (Cond.static yL_done : Cond) ∈ lw_all := lw_t4 (List.mem_of_getElem? (i := 59) rfl) rfl
theorem q856 : (Cond.codeWith yL_done cL_done 3 (some .int) [(0, 8, 11, 47)] : Cond) ∈ lw_all := lw_t4 (List.mem_of_getElem? (i := 60) rfl) rfl
theorem q857 : (Cond.classLink RL 47 "java/util/NoSuchElementException" : Cond) ∈ lw_all := lw_t4 (List.mem_of_getElem? (i := 61) rfl) rfl
theorem q858 : (Cond.methodLink RL 43 yX6_done : Cond) ∈ lw_all := lw_t4 (List.mem_of_getElem? (i := 62) rfl) rfl
theorem q859 : (Cond.instanceMethod yX6_done : Cond) ∈ lw_all := lw_t4 (List.mem_of_getElem? (i := 63) rfl) rfl
theorem q860 : (Cond.selects RX6 yX6_done yX6_done : Cond) ∈ lw_all := lw_t4 (List.mem_of_getElem? (i := 64) rfl) rfl
theorem q861 : (Cond.code yX6_done cX6_done 1 (some .int) : Cond) ∈ lw_all := lw_t4 (List.mem_of_getElem? (i := 65) rfl) rfl
theorem q862 : (Cond.methodLink RX6 176 yX6_lastRun : Cond) ∈ lw_all := lw_t4 (List.mem_of_getElem? (i := 66) rfl) rfl
theorem q864 : (Cond.instanceMethod yX6_lastRun : Cond) ∈ lw_all := lw_t4 (List.mem_of_getElem? (i := 68) rfl) rfl
theorem q865 : (Cond.code yX6_lastRun cX6_lastRun 1 (some (.object "Katacode$Machine")) : Cond) ∈ lw_all := lw_t4 (List.mem_of_getElem? (i := 69) rfl) rfl
theorem q866 : (Cond.classLink RX6 186 "java/util/NoSuchElementException" : Cond) ∈ lw_all := lw_t4 (List.mem_of_getElem? (i := 70) rfl) rfl
theorem q882 : (Cond.methodLink RL 196 yL_outputs : Cond) ∈ lw_all := lw_t4 (List.mem_of_getElem? (i := 86) rfl) rfl
theorem q883 : (Cond.static yL_outputs : Cond) ∈ lw_all := lw_t4 (List.mem_of_getElem? (i := 87) rfl) rfl
theorem q884 : (Cond.codeWith yL_outputs cL_outputs 3 (some .int) [(0, 8, 11, 47)] : Cond) ∈ lw_all := lw_t4 (List.mem_of_getElem? (i := 88) rfl) rfl
theorem q885 : (Cond.methodLink RL 49 yX6_outputs : Cond) ∈ lw_all := lw_t4 (List.mem_of_getElem? (i := 89) rfl) rfl
theorem q886 : (Cond.instanceMethod yX6_outputs : Cond) ∈ lw_all := lw_t4 (List.mem_of_getElem? (i := 90) rfl) rfl
theorem q887 : (Cond.selects RX6 yX6_outputs yX6_outputs : Cond) ∈ lw_all := lw_t4 (List.mem_of_getElem? (i := 91) rfl) rfl
theorem q888 : (Cond.code yX6_outputs cX6_outputs 1 (some .int) : Cond) ∈ lw_all := lw_t4 (List.mem_of_getElem? (i := 92) rfl) rfl
theorem q889 : (Cond.methodLink RL 199 yL_output : Cond) ∈ lw_all := lw_t4 (List.mem_of_getElem? (i := 93) rfl) rfl
theorem q890 : (Cond.static yL_output : Cond) ∈ lw_all := lw_t4 (List.mem_of_getElem? (i := 94) rfl) rfl
theorem q891 : (Cond.codeWith yL_output cL_output 4 (some .int) [(0, 9, 12, 47)] : Cond) ∈ lw_all := lw_t4 (List.mem_of_getElem? (i := 95) rfl) rfl
theorem q892 : (Cond.methodLink RL 52 yX6_output : Cond) ∈ lw_all := lw_t4 (List.mem_of_getElem? (i := 96) rfl) rfl
theorem q893 : (Cond.instanceMethod yX6_output : Cond) ∈ lw_all := lw_t4 (List.mem_of_getElem? (i := 97) rfl) rfl
theorem q894 : (Cond.selects RX6 yX6_output yX6_output : Cond) ∈ lw_all := lw_t4 (List.mem_of_getElem? (i := 98) rfl) rfl
theorem q895 : (Cond.code yX6_output cX6_output 3 (some .int) : Cond) ∈ lw_all := lw_t4 (List.mem_of_getElem? (i := 99) rfl) rfl
theorem q897 : (Cond.methodLink RL 202 yL_depth : Cond) ∈ lw_all := lw_t4 (List.mem_of_getElem? (i := 101) rfl) rfl
theorem q898 : (Cond.static yL_depth : Cond) ∈ lw_all := lw_t4 (List.mem_of_getElem? (i := 102) rfl) rfl
theorem q899 : (Cond.codeWith yL_depth cL_depth 3 (some .int) [(0, 8, 11, 47)] : Cond) ∈ lw_all := lw_t4 (List.mem_of_getElem? (i := 103) rfl) rfl
theorem q900 : (Cond.methodLink RL 55 yX6_depth : Cond) ∈ lw_all := lw_t4 (List.mem_of_getElem? (i := 104) rfl) rfl
theorem q901 : (Cond.instanceMethod yX6_depth : Cond) ∈ lw_all := lw_t4 (List.mem_of_getElem? (i := 105) rfl) rfl
theorem q902 : (Cond.selects RX6 yX6_depth yX6_depth : Cond) ∈ lw_all := lw_t4 (List.mem_of_getElem? (i := 106) rfl) rfl
theorem q903 : (Cond.code yX6_depth cX6_depth 1 (some .int) : Cond) ∈ lw_all := lw_t4 (List.mem_of_getElem? (i := 107) rfl) rfl
theorem q904 : (Cond.methodLink RL 208 yL_member : Cond) ∈ lw_all := lw_t4 (List.mem_of_getElem? (i := 108) rfl) rfl
theorem q905 : (Cond.static yL_member : Cond) ∈ lw_all := lw_t4 (List.mem_of_getElem? (i := 109) rfl) rfl
theorem q906 : (Cond.codeWith yL_member cL_member 3 (some .int) [(0, 8, 11, 15)] : Cond) ∈ lw_all := lw_t4 (List.mem_of_getElem? (i := 110) rfl) rfl
theorem q907 : (Cond.methodLink RL 58 yX6_member : Cond) ∈ lw_all := lw_t4 (List.mem_of_getElem? (i := 111) rfl) rfl
theorem q908 : (Cond.instanceMethod yX6_member : Cond) ∈ lw_all := lw_t4 (List.mem_of_getElem? (i := 112) rfl) rfl
theorem q909 : (Cond.selects RX6 yX6_member yX6_member : Cond) ∈ lw_all := lw_t4 (List.mem_of_getElem? (i := 113) rfl) rfl
theorem q910 : (Cond.code yX6_member cX6_member 1 (some .int) : Cond) ∈ lw_all := lw_t4 (List.mem_of_getElem? (i := 114) rfl) rfl
theorem q912 : (Cond.methodLink RL 211 yL_submit : Cond) ∈ lw_all := lw_t4 (List.mem_of_getElem? (i := 116) rfl) rfl
theorem q913 : (Cond.static yL_submit : Cond) ∈ lw_all := lw_t4 (List.mem_of_getElem? (i := 117) rfl) rfl
theorem q914 : (Cond.codeWith yL_submit cL_submit 5 (some .int) [(0, 10, 13, 28), (0, 10, 17, 41), (0, 10, 21, 15)] : Cond) ∈ lw_all := lw_t4 (List.mem_of_getElem? (i := 118) rfl) rfl
theorem q915 : (Cond.methodLink RL 61 yX6_submit : Cond) ∈ lw_all := lw_t4 (List.mem_of_getElem? (i := 119) rfl) rfl
theorem q916 : (Cond.instanceMethod yX6_submit : Cond) ∈ lw_all := lw_t4 (List.mem_of_getElem? (i := 120) rfl) rfl
theorem q917 : (Cond.selects RX6 yX6_submit yX6_submit : Cond) ∈ lw_all := lw_t4 (List.mem_of_getElem? (i := 121) rfl) rfl
theorem q918 : (Cond.code yX6_submit cX6_submit 5 (some .int) : Cond) ∈ lw_all := lw_t4 (List.mem_of_getElem? (i := 122) rfl) rfl
theorem q919 : (Cond.methodLink RX6 199 yX6_memberAt : Cond) ∈ lw_all := lw_t4 (List.mem_of_getElem? (i := 123) rfl) rfl
theorem q921 : (Cond.instanceMethod yX6_memberAt : Cond) ∈ lw_all := lw_t4 (List.mem_of_getElem? (i := 125) rfl) rfl
theorem q922 : (Cond.code yX6_memberAt cX6_memberAt 2 (some (.object "Katacode$Member")) : Cond) ∈ lw_all := lw_t4 (List.mem_of_getElem? (i := 126) rfl) rfl
theorem q926 : (Cond.methodLink RX6 211 yX5_begin : Cond) ∈ lw_all := lw_t4 (List.mem_of_getElem? (i := 130) rfl) rfl
theorem q927 : (Cond.instanceMethod yX5_begin : Cond) ∈ lw_all := lw_t4 (List.mem_of_getElem? (i := 131) rfl) rfl
theorem q928 : (Cond.selects RX5 yX5_begin yX5_begin : Cond) ∈ lw_all := lw_t4 (List.mem_of_getElem? (i := 132) rfl) rfl
theorem q929 : (Cond.code yX5_begin cX5_begin 4 none : Cond) ∈ lw_all := lw_t4 (List.mem_of_getElem? (i := 133) rfl) rfl
theorem q930 : (Cond.methodLink RX5 72 yX3_sumOfAll : Cond) ∈ lw_all := lw_t4 (List.mem_of_getElem? (i := 134) rfl) rfl
theorem q931 : (Cond.methodLink RX5 76 yX5_regain : Cond) ∈ lw_all := lw_t4 (List.mem_of_getElem? (i := 135) rfl) rfl
theorem q932 : (Cond.instanceMethod yX5_regain : Cond) ∈ lw_all := lw_t4 (List.mem_of_getElem? (i := 136) rfl) rfl
theorem q933 : (Cond.selects RX5 yX5_regain yX5_regain : Cond) ∈ lw_all := lw_t4 (List.mem_of_getElem? (i := 137) rfl) rfl
theorem q934 : (Cond.code yX5_regain cX5_regain 2 none : Cond) ∈ lw_all := lw_t4 (List.mem_of_getElem? (i := 138) rfl) rfl
theorem q935 : (Cond.methodLink RX5 80 yX3_take : Cond) ∈ lw_all := lw_t4 (List.mem_of_getElem? (i := 139) rfl) rfl
theorem q936 : (Cond.instanceMethod yX3_take : Cond) ∈ lw_all := lw_t4 (List.mem_of_getElem? (i := 140) rfl) rfl
theorem q937 : (Cond.selects RX3 yX3_take yX3_take : Cond) ∈ lw_all := lw_t4 (List.mem_of_getElem? (i := 141) rfl) rfl
theorem q938 : (Cond.code yX3_take cX3_take 3 none : Cond) ∈ lw_all := lw_t4 (List.mem_of_getElem? (i := 142) rfl) rfl
theorem q939 : (Cond.methodLink RX6 215 yX6_makeRoom : Cond) ∈ lw_all := lw_t4 (List.mem_of_getElem? (i := 143) rfl) rfl
theorem q941 : (Cond.instanceMethod yX6_makeRoom : Cond) ∈ lw_all := lw_t4 (List.mem_of_getElem? (i := 145) rfl) rfl
theorem q942 : (Cond.code yX6_makeRoom cX6_makeRoom 4 (some .int) : Cond) ∈ lw_all := lw_t4 (List.mem_of_getElem? (i := 146) rfl) rfl
theorem q943 : (Cond.methodLink RX6 438 yX6_nextToDrop : Cond) ∈ lw_all := lw_t4 (List.mem_of_getElem? (i := 147) rfl) rfl
theorem q945 : (Cond.instanceMethod yX6_nextToDrop : Cond) ∈ lw_all := lw_t4 (List.mem_of_getElem? (i := 149) rfl) rfl
theorem q946 : (Cond.code yX6_nextToDrop cX6_nextToDrop 3 (some .int) : Cond) ∈ lw_all := lw_t4 (List.mem_of_getElem? (i := 150) rfl) rfl
theorem q947 : (Cond.methodLink RX6 441 yX6_isDroppedBefore : Cond) ∈ lw_all := lw_t4 (List.mem_of_getElem? (i := 151) rfl) rfl
theorem q948 : (Cond.static yX6_isDroppedBefore : Cond) ∈ lw_all := lw_t4 (List.mem_of_getElem? (i := 152) rfl) rfl
theorem q949 : (Cond.code yX6_isDroppedBefore cX6_isDroppedBefore 3 (some .boolean) : Cond) ∈ lw_all := lw_t4 (List.mem_of_getElem? (i := 153) rfl) rfl
theorem q950 : (Cond.methodLink RX6 266 yX6_dropBody : Cond) ∈ lw_all := lw_t4 (List.mem_of_getElem? (i := 154) rfl) rfl
theorem q952 : (Cond.instanceMethod yX6_dropBody : Cond) ∈ lw_all := lw_t4 (List.mem_of_getElem? (i := 156) rfl) rfl
theorem q953 : (Cond.code yX6_dropBody cX6_dropBody 4 none : Cond) ∈ lw_all := lw_t4 (List.mem_of_getElem? (i := 157) rfl) rfl
theorem q954 : (Cond.methodLink RL 218 yL_of : Cond) ∈ lw_all := lw_t4 (List.mem_of_getElem? (i := 158) rfl) rfl
theorem q955 : (Cond.static yL_of : Cond) ∈ lw_all := lw_t4 (List.mem_of_getElem? (i := 159) rfl) rfl
theorem q956 : (Cond.codeWith yL_of cL_of 5 (some .int) [(0, 10, 13, 28), (0, 10, 17, 13)] : Cond) ∈ lw_all := lw_t4 (List.mem_of_getElem? (i := 160) rfl) rfl
theorem q957 : (Cond.methodLink RL 64 yX6_of : Cond) ∈ lw_all := lw_t4 (List.mem_of_getElem? (i := 161) rfl) rfl
theorem q958 : (Cond.instanceMethod yX6_of : Cond) ∈ lw_all := lw_t4 (List.mem_of_getElem? (i := 162) rfl) rfl
theorem q959 : (Cond.selects RX6 yX6_of yX6_of : Cond) ∈ lw_all := lw_t4 (List.mem_of_getElem? (i := 163) rfl) rfl
theorem q960 : (Cond.code yX6_of cX6_of 4 (some .int) : Cond) ∈ lw_all := lw_t4 (List.mem_of_getElem? (i := 164) rfl) rfl
theorem q961 : (Cond.methodLink RX6 219 yX6_workAt : Cond) ∈ lw_all := lw_t4 (List.mem_of_getElem? (i := 165) rfl) rfl
theorem q963 : (Cond.instanceMethod yX6_workAt : Cond) ∈ lw_all := lw_t4 (List.mem_of_getElem? (i := 167) rfl) rfl
theorem q964 : (Cond.code yX6_workAt cX6_workAt 2 (some (.object "Katacode$Work")) : Cond) ∈ lw_all := lw_t4 (List.mem_of_getElem? (i := 168) rfl) rfl
theorem q967 : (Cond.methodLink RL 222 yL_state : Cond) ∈ lw_all := lw_t4 (List.mem_of_getElem? (i := 171) rfl) rfl
theorem q968 : (Cond.static yL_state : Cond) ∈ lw_all := lw_t4 (List.mem_of_getElem? (i := 172) rfl) rfl
theorem q969 : (Cond.codeWith yL_state cL_state 4 (some .int) [(0, 9, 12, 28)] : Cond) ∈ lw_all := lw_t4 (List.mem_of_getElem? (i := 173) rfl) rfl
theorem q970 : (Cond.methodLink RL 68 yX6_state : Cond) ∈ lw_all := lw_t4 (List.mem_of_getElem? (i := 174) rfl) rfl
theorem q971 : (Cond.instanceMethod yX6_state : Cond) ∈ lw_all := lw_t4 (List.mem_of_getElem? (i := 175) rfl) rfl
theorem q972 : (Cond.selects RX6 yX6_state yX6_state : Cond) ∈ lw_all := lw_t4 (List.mem_of_getElem? (i := 176) rfl) rfl
theorem q973 : (Cond.code yX6_state cX6_state 2 (some .char) : Cond) ∈ lw_all := lw_t4 (List.mem_of_getElem? (i := 177) rfl) rfl
theorem q974 : (Cond.methodLink RL 225 yL_sum : Cond) ∈ lw_all := lw_t4 (List.mem_of_getElem? (i := 178) rfl) rfl
theorem q975 : (Cond.static yL_sum : Cond) ∈ lw_all := lw_t4 (List.mem_of_getElem? (i := 179) rfl) rfl
theorem q976 : (Cond.codeWith yL_sum cL_sum 4 (some .int) [(0, 8, 11, 28)] : Cond) ∈ lw_all := lw_t4 (List.mem_of_getElem? (i := 180) rfl) rfl
theorem q977 : (Cond.methodLink RL 72 yX6_sum : Cond) ∈ lw_all := lw_t4 (List.mem_of_getElem? (i := 181) rfl) rfl
theorem q978 : (Cond.instanceMethod yX6_sum : Cond) ∈ lw_all := lw_t4 (List.mem_of_getElem? (i := 182) rfl) rfl
theorem q979 : (Cond.selects RX6 yX6_sum yX6_sum : Cond) ∈ lw_all := lw_t4 (List.mem_of_getElem? (i := 183) rfl) rfl
theorem q980 : (Cond.code yX6_sum cX6_sum 2 (some .long) : Cond) ∈ lw_all := lw_t4 (List.mem_of_getElem? (i := 184) rfl) rfl
theorem q981 : (Cond.methodLink RL 228 yL_steps : Cond) ∈ lw_all := lw_t4 (List.mem_of_getElem? (i := 185) rfl) rfl
theorem q982 : (Cond.static yL_steps : Cond) ∈ lw_all := lw_t4 (List.mem_of_getElem? (i := 186) rfl) rfl
theorem q983 : (Cond.codeWith yL_steps cL_steps 5 (some .int) [(0, 10, 13, 28), (0, 10, 17, 47)] : Cond) ∈ lw_all := lw_t4 (List.mem_of_getElem? (i := 187) rfl) rfl
theorem q984 : (Cond.methodLink RL 76 yX6_steps : Cond) ∈ lw_all := lw_t4 (List.mem_of_getElem? (i := 188) rfl) rfl
theorem q985 : (Cond.instanceMethod yX6_steps : Cond) ∈ lw_all := lw_t4 (List.mem_of_getElem? (i := 189) rfl) rfl
theorem q986 : (Cond.selects RX6 yX6_steps yX6_steps : Cond) ∈ lw_all := lw_t4 (List.mem_of_getElem? (i := 190) rfl) rfl
theorem q987 : (Cond.code yX6_steps cX6_steps 5 (some .int) : Cond) ∈ lw_all := lw_t4 (List.mem_of_getElem? (i := 191) rfl) rfl
theorem q988 : (Cond.methodLink RX6 246 yX6_stepsTold : Cond) ∈ lw_all := lw_t4 (List.mem_of_getElem? (i := 192) rfl) rfl
theorem q990 : (Cond.instanceMethod yX6_stepsTold : Cond) ∈ lw_all := lw_t4 (List.mem_of_getElem? (i := 194) rfl) rfl
theorem q991 : (Cond.code yX6_stepsTold cX6_stepsTold 3 (some .int) : Cond) ∈ lw_all := lw_t4 (List.mem_of_getElem? (i := 195) rfl) rfl
theorem q992 : (Cond.methodLink RX6 428 yX6_stepsDoneBy : Cond) ∈ lw_all := lw_t4 (List.mem_of_getElem? (i := 196) rfl) rfl
theorem q994 : (Cond.instanceMethod yX6_stepsDoneBy : Cond) ∈ lw_all := lw_t4 (List.mem_of_getElem? (i := 198) rfl) rfl
theorem q995 : (Cond.code yX6_stepsDoneBy cX6_stepsDoneBy 3 (some .int) : Cond) ∈ lw_all := lw_t4 (List.mem_of_getElem? (i := 199) rfl) rfl
theorem q997 : (Cond.methodLink RL 231 yL_hasBody : Cond) ∈ lw_all := lw_t4 (List.mem_of_getElem? (i := 201) rfl) rfl
theorem q998 : (Cond.static yL_hasBody : Cond) ∈ lw_all := lw_t4 (List.mem_of_getElem? (i := 202) rfl) rfl
theorem q999 : (Cond.codeWith yL_hasBody cL_hasBody 4 (some .int) [(0, 16, 19, 28)] : Cond) ∈ lw_all := lw_t4 (List.mem_of_getElem? (i := 203) rfl) rfl
theorem q1000 : (Cond.methodLink RL 79 yX6_hasBody : Cond) ∈ lw_all := lw_t4 (List.mem_of_getElem? (i := 204) rfl) rfl
theorem q1001 : (Cond.instanceMethod yX6_hasBody : Cond) ∈ lw_all := lw_t4 (List.mem_of_getElem? (i := 205) rfl) rfl
theorem q1002 : (Cond.selects RX6 yX6_hasBody yX6_hasBody : Cond) ∈ lw_all := lw_t4 (List.mem_of_getElem? (i := 206) rfl) rfl
theorem q1003 : (Cond.code yX6_hasBody cX6_hasBody 2 (some .boolean) : Cond) ∈ lw_all := lw_t4 (List.mem_of_getElem? (i := 207) rfl) rfl
theorem q1004 : (Cond.methodLink RL 234 yL_letter : Cond) ∈ lw_all := lw_t4 (List.mem_of_getElem? (i := 208) rfl) rfl
theorem q1005 : (Cond.static yL_letter : Cond) ∈ lw_all := lw_t4 (List.mem_of_getElem? (i := 209) rfl) rfl
theorem q1006 : (Cond.codeWith yL_letter cL_letter 5 (some .int) [(0, 10, 13, 28), (0, 10, 17, 47)] : Cond) ∈ lw_all := lw_t4 (List.mem_of_getElem? (i := 210) rfl) rfl
theorem q1007 : (Cond.methodLink RL 83 yX6_letter : Cond) ∈ lw_all := lw_t4 (List.mem_of_getElem? (i := 211) rfl) rfl
theorem q1008 : (Cond.instanceMethod yX6_letter : Cond) ∈ lw_all := lw_t4 (List.mem_of_getElem? (i := 212) rfl) rfl
theorem q1009 : (Cond.selects RX6 yX6_letter yX6_letter : Cond) ∈ lw_all := lw_t4 (List.mem_of_getElem? (i := 213) rfl) rfl
theorem q1010 : (Cond.code yX6_letter cX6_letter 4 (some .char) : Cond) ∈ lw_all := lw_t4 (List.mem_of_getElem? (i := 214) rfl) rfl
theorem q1012 : (Cond.methodLink RL 237 yL_drop : Cond) ∈ lw_all := lw_t4 (List.mem_of_getElem? (i := 216) rfl) rfl
theorem q1013 : (Cond.static yL_drop : Cond) ∈ lw_all := lw_t4 (List.mem_of_getElem? (i := 217) rfl) rfl
theorem q1014 : (Cond.codeWith yL_drop cL_drop 4 (some .int) [(0, 9, 12, 28), (0, 9, 15, 41)] : Cond) ∈ lw_all := lw_t4 (List.mem_of_getElem? (i := 218) rfl) rfl
theorem q1015 : (Cond.methodLink RL 86 yX6_drop : Cond) ∈ lw_all := lw_t4 (List.mem_of_getElem? (i := 219) rfl) rfl
theorem q1016 : (Cond.instanceMethod yX6_drop : Cond) ∈ lw_all := lw_t4 (List.mem_of_getElem? (i := 220) rfl) rfl
theorem q1017 : (Cond.selects RX6 yX6_drop yX6_drop : Cond) ∈ lw_all := lw_t4 (List.mem_of_getElem? (i := 221) rfl) rfl
theorem q1018 : (Cond.code yX6_drop cX6_drop 3 (some .int) : Cond) ∈ lw_all := lw_t4 (List.mem_of_getElem? (i := 222) rfl) rfl
theorem q1020 : (Cond.methodLink RL 240 yL_capacity : Cond) ∈ lw_all := lw_t4 (List.mem_of_getElem? (i := 224) rfl) rfl
theorem q1021 : (Cond.static yL_capacity : Cond) ∈ lw_all := lw_t4 (List.mem_of_getElem? (i := 225) rfl) rfl
theorem q1022 : (Cond.codeWith yL_capacity cL_capacity 4 (some .int) [(0, 9, 12, 13)] : Cond) ∈ lw_all := lw_t4 (List.mem_of_getElem? (i := 226) rfl) rfl
theorem q1023 : (Cond.methodLink RL 89 yX6_capacity : Cond) ∈ lw_all := lw_t4 (List.mem_of_getElem? (i := 227) rfl) rfl
theorem q1024 : (Cond.instanceMethod yX6_capacity : Cond) ∈ lw_all := lw_t4 (List.mem_of_getElem? (i := 228) rfl) rfl
theorem q1025 : (Cond.selects RX6 yX6_capacity yX6_capacity : Cond) ∈ lw_all := lw_t4 (List.mem_of_getElem? (i := 229) rfl) rfl
theorem q1026 : (Cond.code yX6_capacity cX6_capacity 2 (some .int) : Cond) ∈ lw_all := lw_t4 (List.mem_of_getElem? (i := 230) rfl) rfl
theorem q1028 : (Cond.methodLink RL 247 yL_read : Cond) ∈ lw_all := lw_t4 (List.mem_of_getElem? (i := 232) rfl) rfl
theorem q1029 : (Cond.static yL_read : Cond) ∈ lw_all := lw_t4 (List.mem_of_getElem? (i := 233) rfl) rfl
theorem q1030 : (Cond.codeWith yL_read cL_read 5 (some .int) [(0, 10, 13, 28), (0, 10, 17, 47)] : Cond) ∈ lw_all := lw_t4 (List.mem_of_getElem? (i := 234) rfl) rfl
theorem q1031 : (Cond.methodLink RL 92 yX6_read : Cond) ∈ lw_all := lw_t4 (List.mem_of_getElem? (i := 235) rfl) rfl
theorem q1032 : (Cond.instanceMethod yX6_read : Cond) ∈ lw_all := lw_t4 (List.mem_of_getElem? (i := 236) rfl) rfl
theorem q1033 : (Cond.selects RX6 yX6_read yX6_read : Cond) ∈ lw_all := lw_t4 (List.mem_of_getElem? (i := 237) rfl) rfl
theorem q1034 : (Cond.code yX6_read cX6_read 5 (some .int) : Cond) ∈ lw_all := lw_t4 (List.mem_of_getElem? (i := 238) rfl) rfl
theorem q1035 : (Cond.methodLink RX6 275 yX2_keepCopy : Cond) ∈ lw_all := lw_t4 (List.mem_of_getElem? (i := 239) rfl) rfl
theorem q1036 : (Cond.instanceMethod yX2_keepCopy : Cond) ∈ lw_all := lw_t5 (List.mem_of_getElem? (i := 0) rfl) rfl
theorem q1037 : (Cond.selects RX2 yX2_keepCopy yX2_keepCopy : Cond) ∈ lw_all := lw_t5 (List.mem_of_getElem? (i := 1) rfl) rfl
theorem q1038 : (Cond.code yX2_keepCopy cX2_keepCopy 6 none : Cond) ∈ lw_all := lw_t5 (List.mem_of_getElem? (i := 2) rfl) rfl
theorem q1039 : (Cond.methodLink RX2 29 yX2_placeOfCopy : Cond) ∈ lw_all := lw_t5 (List.mem_of_getElem? (i := 3) rfl) rfl
theorem q1040 : (Cond.instanceMethod yX2_placeOfCopy : Cond) ∈ lw_all := lw_t5 (List.mem_of_getElem? (i := 4) rfl) rfl
theorem q1041 : (Cond.selects RX2 yX2_placeOfCopy yX2_placeOfCopy : Cond) ∈ lw_all := lw_t5 (List.mem_of_getElem? (i := 5) rfl) rfl
theorem q1042 : (Cond.code yX2_placeOfCopy cX2_placeOfCopy 3 (some .int) : Cond) ∈ lw_all := lw_t5 (List.mem_of_getElem? (i := 6) rfl) rfl
theorem q1043 : (Cond.methodLink RX2 33 yX3_take : Cond) ∈ lw_all := lw_t5 (List.mem_of_getElem? (i := 7) rfl) rfl
theorem q1044 : (Cond.methodLink RL 250 yL_copy : Cond) ∈ lw_all := lw_t5 (List.mem_of_getElem? (i := 8) rfl) rfl
theorem q1045 : (Cond.static yL_copy : Cond) ∈ lw_all := lw_t5 (List.mem_of_getElem? (i := 9) rfl) rfl
theorem q1046 : (Cond.codeWith yL_copy cL_copy 5 (some .int) [(0, 10, 13, 28), (0, 10, 17, 47)] : Cond) ∈ lw_all := lw_t5 (List.mem_of_getElem? (i := 10) rfl) rfl
theorem q1047 : (Cond.methodLink RL 95 yX6_copy : Cond) ∈ lw_all := lw_t5 (List.mem_of_getElem? (i := 11) rfl) rfl
theorem q1048 : (Cond.instanceMethod yX6_copy : Cond) ∈ lw_all := lw_t5 (List.mem_of_getElem? (i := 12) rfl) rfl
theorem q1049 : (Cond.selects RX6 yX6_copy yX6_copy : Cond) ∈ lw_all := lw_t5 (List.mem_of_getElem? (i := 13) rfl) rfl
theorem q1050 : (Cond.code yX6_copy cX6_copy 4 (some .int) : Cond) ∈ lw_all := lw_t5 (List.mem_of_getElem? (i := 14) rfl) rfl
theorem q1052 : (Cond.methodLink RL 253 yL_vote : Cond) ∈ lw_all := lw_t5 (List.mem_of_getElem? (i := 16) rfl) rfl
theorem q1053 : (Cond.static yL_vote : Cond) ∈ lw_all := lw_t5 (List.mem_of_getElem? (i := 17) rfl) rfl
theorem q1054 : (Cond.codeWith yL_vote cL_vote 6 (some .int) [(0, 12, 15, 28), (0, 12, 19, 13), (0, 12, 23, 41)] : Cond) ∈ lw_all := lw_t5 (List.mem_of_getElem? (i := 18) rfl) rfl
theorem q1055 : (Cond.methodLink RL 98 yX6_vote : Cond) ∈ lw_all := lw_t5 (List.mem_of_getElem? (i := 19) rfl) rfl
theorem q1056 : (Cond.instanceMethod yX6_vote : Cond) ∈ lw_all := lw_t5 (List.mem_of_getElem? (i := 20) rfl) rfl
theorem q1057 : (Cond.selects RX6 yX6_vote yX6_vote : Cond) ∈ lw_all := lw_t5 (List.mem_of_getElem? (i := 21) rfl) rfl
theorem q1058 : (Cond.code yX6_vote cX6_vote 6 (some .int) : Cond) ∈ lw_all := lw_t5 (List.mem_of_getElem? (i := 22) rfl) rfl
theorem q1060 : (Cond.methodLink RX6 289 yX6_isOpenToVoteOf : Cond) ∈ lw_all := lw_t5 (List.mem_of_getElem? (i := 24) rfl) rfl
theorem q1061 : (Cond.static yX6_isOpenToVoteOf : Cond) ∈ lw_all := lw_t5 (List.mem_of_getElem? (i := 25) rfl) rfl
theorem q1062 : (Cond.code yX6_isOpenToVoteOf cX6_isOpenToVoteOf 2 (some .boolean) : Cond) ∈ lw_all := lw_t5 (List.mem_of_getElem? (i := 26) rfl) rfl
theorem q1064 : (Cond.methodLink RX6 298 yX5_takeVote : Cond) ∈ lw_all := lw_t5 (List.mem_of_getElem? (i := 28) rfl) rfl
theorem q1065 : (Cond.instanceMethod yX5_takeVote : Cond) ∈ lw_all := lw_t5 (List.mem_of_getElem? (i := 29) rfl) rfl
theorem q1066 : (Cond.selects RX5 yX5_takeVote yX5_takeVote : Cond) ∈ lw_all := lw_t5 (List.mem_of_getElem? (i := 30) rfl) rfl
theorem q1067 : (Cond.code yX5_takeVote cX5_takeVote 4 none : Cond) ∈ lw_all := lw_t5 (List.mem_of_getElem? (i := 31) rfl) rfl
theorem q1068 : (Cond.methodLink RL 257 yL_style : Cond) ∈ lw_all := lw_t5 (List.mem_of_getElem? (i := 32) rfl) rfl
theorem q1069 : (Cond.static yL_style : Cond) ∈ lw_all := lw_t5 (List.mem_of_getElem? (i := 33) rfl) rfl
theorem q1070 : (Cond.codeWith yL_style cL_style 5 (some .int) [(0, 9, 12, 28)] : Cond) ∈ lw_all := lw_t5 (List.mem_of_getElem? (i := 34) rfl) rfl
theorem q1071 : (Cond.methodLink RL 102 yX6_style : Cond) ∈ lw_all := lw_t5 (List.mem_of_getElem? (i := 35) rfl) rfl
theorem q1072 : (Cond.instanceMethod yX6_style : Cond) ∈ lw_all := lw_t5 (List.mem_of_getElem? (i := 36) rfl) rfl
theorem q1073 : (Cond.selects RX6 yX6_style yX6_style : Cond) ∈ lw_all := lw_t5 (List.mem_of_getElem? (i := 37) rfl) rfl
theorem q1074 : (Cond.code yX6_style cX6_style 7 (some .long) : Cond) ∈ lw_all := lw_t5 (List.mem_of_getElem? (i := 38) rfl) rfl
theorem q1075 : (Cond.methodLink RX6 308 yX6_commonDivisor : Cond) ∈ lw_all := lw_t5 (List.mem_of_getElem? (i := 39) rfl) rfl
theorem q1076 : (Cond.static yX6_commonDivisor : Cond) ∈ lw_all := lw_t5 (List.mem_of_getElem? (i := 40) rfl) rfl
theorem q1077 : (Cond.code yX6_commonDivisor cX6_commonDivisor 6 (some .int) : Cond) ∈ lw_all := lw_t5 (List.mem_of_getElem? (i := 41) rfl) rfl
theorem q1078 : (Cond.methodLink RL 260 yL_review : Cond) ∈ lw_all := lw_t5 (List.mem_of_getElem? (i := 42) rfl) rfl
theorem q1079 : (Cond.static yL_review : Cond) ∈ lw_all := lw_t5 (List.mem_of_getElem? (i := 43) rfl) rfl
theorem q1080 : (Cond.codeWith yL_review cL_review 4 (some .int) [(0, 9, 12, 28), (0, 9, 15, 47)] : Cond) ∈ lw_all := lw_t5 (List.mem_of_getElem? (i := 44) rfl) rfl
theorem q1081 : (Cond.methodLink RL 106 yX6_review : Cond) ∈ lw_all := lw_t5 (List.mem_of_getElem? (i := 45) rfl) rfl
theorem q1082 : (Cond.instanceMethod yX6_review : Cond) ∈ lw_all := lw_t5 (List.mem_of_getElem? (i := 46) rfl) rfl
theorem q1083 : (Cond.selects RX6 yX6_review yX6_review : Cond) ∈ lw_all := lw_t5 (List.mem_of_getElem? (i := 47) rfl) rfl
theorem q1084 : (Cond.code yX6_review cX6_review 6 (some .int) : Cond) ∈ lw_all := lw_t5 (List.mem_of_getElem? (i := 48) rfl) rfl
theorem q1085 : (Cond.methodLink RX6 315 yX6_isReviewedBefore : Cond) ∈ lw_all := lw_t5 (List.mem_of_getElem? (i := 49) rfl) rfl
theorem q1087 : (Cond.instanceMethod yX6_isReviewedBefore : Cond) ∈ lw_all := lw_t5 (List.mem_of_getElem? (i := 51) rfl) rfl
theorem q1088 : (Cond.code yX6_isReviewedBefore cX6_isReviewedBefore 3 (some .boolean) : Cond) ∈ lw_all := lw_t5 (List.mem_of_getElem? (i := 52) rfl) rfl
theorem q1090 : (Cond.methodLink RL 263 yL_best : Cond) ∈ lw_all := lw_t5 (List.mem_of_getElem? (i := 54) rfl) rfl
theorem q1091 : (Cond.static yL_best : Cond) ∈ lw_all := lw_t5 (List.mem_of_getElem? (i := 55) rfl) rfl
theorem q1092 : (Cond.codeWith yL_best cL_best 5 (some .int) [(0, 10, 13, 28), (0, 10, 17, 47)] : Cond) ∈ lw_all := lw_t5 (List.mem_of_getElem? (i := 56) rfl) rfl
theorem q1093 : (Cond.methodLink RL 109 yX6_best : Cond) ∈ lw_all := lw_t5 (List.mem_of_getElem? (i := 57) rfl) rfl
theorem q1094 : (Cond.instanceMethod yX6_best : Cond) ∈ lw_all := lw_t5 (List.mem_of_getElem? (i := 58) rfl) rfl
theorem q1095 : (Cond.selects RX6 yX6_best yX6_best : Cond) ∈ lw_all := lw_t5 (List.mem_of_getElem? (i := 59) rfl) rfl
theorem q1096 : (Cond.code yX6_best cX6_best 3 (some .int) : Cond) ∈ lw_all := lw_t5 (List.mem_of_getElem? (i := 60) rfl) rfl
theorem q1098 : (Cond.methodLink RL 266 yL_points : Cond) ∈ lw_all := lw_t5 (List.mem_of_getElem? (i := 62) rfl) rfl
theorem q1099 : (Cond.static yL_points : Cond) ∈ lw_all := lw_t5 (List.mem_of_getElem? (i := 63) rfl) rfl
theorem q1100 : (Cond.codeWith yL_points cL_points 4 (some .int) [(0, 9, 12, 28)] : Cond) ∈ lw_all := lw_t5 (List.mem_of_getElem? (i := 64) rfl) rfl
theorem q1101 : (Cond.methodLink RL 112 yX6_points : Cond) ∈ lw_all := lw_t5 (List.mem_of_getElem? (i := 65) rfl) rfl
theorem q1102 : (Cond.instanceMethod yX6_points : Cond) ∈ lw_all := lw_t5 (List.mem_of_getElem? (i := 66) rfl) rfl
theorem q1103 : (Cond.selects RX6 yX6_points yX6_points : Cond) ∈ lw_all := lw_t5 (List.mem_of_getElem? (i := 67) rfl) rfl
theorem q1104 : (Cond.code yX6_points cX6_points 2 (some .float) : Cond) ∈ lw_all := lw_t5 (List.mem_of_getElem? (i := 68) rfl) rfl
theorem q1105 : (Cond.methodLink RX6 327 yX6_pointsOf : Cond) ∈ lw_all := lw_t5 (List.mem_of_getElem? (i := 69) rfl) rfl
theorem q1107 : (Cond.instanceMethod yX6_pointsOf : Cond) ∈ lw_all := lw_t5 (List.mem_of_getElem? (i := 71) rfl) rfl
theorem q1108 : (Cond.code yX6_pointsOf cX6_pointsOf 2 (some .float) : Cond) ∈ lw_all := lw_t5 (List.mem_of_getElem? (i := 72) rfl) rfl
theorem q1109 : (Cond.methodLink RL 270 yL_belt : Cond) ∈ lw_all := lw_t5 (List.mem_of_getElem? (i := 73) rfl) rfl
theorem q1110 : (Cond.static yL_belt : Cond) ∈ lw_all := lw_t5 (List.mem_of_getElem? (i := 74) rfl) rfl
theorem q1111 : (Cond.codeWith yL_belt cL_belt 4 (some .int) [(0, 9, 12, 28)] : Cond) ∈ lw_all := lw_t5 (List.mem_of_getElem? (i := 75) rfl) rfl
theorem q1112 : (Cond.methodLink RL 116 yX6_belt : Cond) ∈ lw_all := lw_t5 (List.mem_of_getElem? (i := 76) rfl) rfl
theorem q1113 : (Cond.instanceMethod yX6_belt : Cond) ∈ lw_all := lw_t5 (List.mem_of_getElem? (i := 77) rfl) rfl
theorem q1114 : (Cond.selects RX6 yX6_belt yX6_belt : Cond) ∈ lw_all := lw_t5 (List.mem_of_getElem? (i := 78) rfl) rfl
theorem q1115 : (Cond.code yX6_belt cX6_belt 2 (some .int) : Cond) ∈ lw_all := lw_t5 (List.mem_of_getElem? (i := 79) rfl) rfl
theorem q1116 : (Cond.methodLink RL 273 yL_honour : Cond) ∈ lw_all := lw_t5 (List.mem_of_getElem? (i := 80) rfl) rfl
theorem q1117 : (Cond.static yL_honour : Cond) ∈ lw_all := lw_t5 (List.mem_of_getElem? (i := 81) rfl) rfl
theorem q1118 : (Cond.codeWith yL_honour cL_honour 4 (some .int) [(0, 9, 12, 28)] : Cond) ∈ lw_all := lw_t5 (List.mem_of_getElem? (i := 82) rfl) rfl
theorem q1119 : (Cond.methodLink RL 119 yX6_honour : Cond) ∈ lw_all := lw_t5 (List.mem_of_getElem? (i := 83) rfl) rfl
theorem q1120 : (Cond.instanceMethod yX6_honour : Cond) ∈ lw_all := lw_t5 (List.mem_of_getElem? (i := 84) rfl) rfl
theorem q1121 : (Cond.selects RX6 yX6_honour yX6_honour : Cond) ∈ lw_all := lw_t5 (List.mem_of_getElem? (i := 85) rfl) rfl
theorem q1122 : (Cond.code yX6_honour cX6_honour 2 (some .int) : Cond) ∈ lw_all := lw_t5 (List.mem_of_getElem? (i := 86) rfl) rfl
theorem q1123 : (Cond.methodLink RL 276 yL_ranked : Cond) ∈ lw_all := lw_t5 (List.mem_of_getElem? (i := 87) rfl) rfl
theorem q1124 : (Cond.static yL_ranked : Cond) ∈ lw_all := lw_t5 (List.mem_of_getElem? (i := 88) rfl) rfl
theorem q1125 : (Cond.codeWith yL_ranked cL_ranked 4 (some .int) [(0, 9, 12, 47)] : Cond) ∈ lw_all := lw_t5 (List.mem_of_getElem? (i := 89) rfl) rfl
theorem q1126 : (Cond.methodLink RL 122 yX6_ranked : Cond) ∈ lw_all := lw_t5 (List.mem_of_getElem? (i := 90) rfl) rfl
theorem q1127 : (Cond.instanceMethod yX6_ranked : Cond) ∈ lw_all := lw_t5 (List.mem_of_getElem? (i := 91) rfl) rfl
theorem q1128 : (Cond.selects RX6 yX6_ranked yX6_ranked : Cond) ∈ lw_all := lw_t5 (List.mem_of_getElem? (i := 92) rfl) rfl
theorem q1129 : (Cond.code yX6_ranked cX6_ranked 5 (some .int) : Cond) ∈ lw_all := lw_t5 (List.mem_of_getElem? (i := 93) rfl) rfl
theorem q1130 : (Cond.methodLink RX6 334 yX6_isRankedBefore : Cond) ∈ lw_all := lw_t5 (List.mem_of_getElem? (i := 94) rfl) rfl
theorem q1132 : (Cond.instanceMethod yX6_isRankedBefore : Cond) ∈ lw_all := lw_t5 (List.mem_of_getElem? (i := 96) rfl) rfl
theorem q1133 : (Cond.code yX6_isRankedBefore cX6_isRankedBefore 7 (some .boolean) : Cond) ∈ lw_all := lw_t5 (List.mem_of_getElem? (i := 97) rfl) rfl
theorem q1135 : (Cond.methodLink RL 279 yL_challenge : Cond) ∈ lw_all := lw_t5 (List.mem_of_getElem? (i := 99) rfl) rfl
theorem q1136 : (Cond.static yL_challenge : Cond) ∈ lw_all := lw_t5 (List.mem_of_getElem? (i := 100) rfl) rfl
theorem q1137 : (Cond.codeWith yL_challenge cL_challenge 5 (some .int) [(0, 10, 13, 28), (0, 10, 17, 41), (0, 10, 21, 15)] : Cond) ∈ lw_all := lw_t5 (List.mem_of_getElem? (i := 101) rfl) rfl
theorem q1138 : (Cond.methodLink RL 125 yX6_challenge : Cond) ∈ lw_all := lw_t5 (List.mem_of_getElem? (i := 102) rfl) rfl
theorem q1139 : (Cond.instanceMethod yX6_challenge : Cond) ∈ lw_all := lw_t5 (List.mem_of_getElem? (i := 103) rfl) rfl
theorem q1140 : (Cond.selects RX6 yX6_challenge yX6_challenge : Cond) ∈ lw_all := lw_t5 (List.mem_of_getElem? (i := 104) rfl) rfl
theorem q1141 : (Cond.code yX6_challenge cX6_challenge 5 (some .int) : Cond) ∈ lw_all := lw_t5 (List.mem_of_getElem? (i := 105) rfl) rfl
theorem q1144 : (Cond.methodLink RL 282 yL_give : Cond) ∈ lw_all := lw_t5 (List.mem_of_getElem? (i := 108) rfl) rfl
theorem q1145 : (Cond.static yL_give : Cond) ∈ lw_all := lw_t5 (List.mem_of_getElem? (i := 109) rfl) rfl
theorem q1146 : (Cond.codeWith yL_give cL_give 5 (some .int) [(0, 10, 13, 28), (0, 10, 17, 41), (0, 10, 21, 47)] : Cond) ∈ lw_all := lw_t5 (List.mem_of_getElem? (i := 110) rfl) rfl
theorem q1147 : (Cond.methodLink RL 128 yX6_give : Cond) ∈ lw_all := lw_t5 (List.mem_of_getElem? (i := 111) rfl) rfl
theorem q1148 : (Cond.instanceMethod yX6_give : Cond) ∈ lw_all := lw_t5 (List.mem_of_getElem? (i := 112) rfl) rfl
theorem q1149 : (Cond.selects RX6 yX6_give yX6_give : Cond) ∈ lw_all := lw_t5 (List.mem_of_getElem? (i := 113) rfl) rfl
theorem q1150 : (Cond.code yX6_give cX6_give 5 (some .char) : Cond) ∈ lw_all := lw_t5 (List.mem_of_getElem? (i := 114) rfl) rfl
theorem q1152 : (Cond.methodLink RX6 352 yX2_placeOfCopy : Cond) ∈ lw_all := lw_t5 (List.mem_of_getElem? (i := 116) rfl) rfl
theorem q1154 : (Cond.methodLink RX6 361 yX6_closeByBody : Cond) ∈ lw_all := lw_t5 (List.mem_of_getElem? (i := 118) rfl) rfl
theorem q1156 : (Cond.instanceMethod yX6_closeByBody : Cond) ∈ lw_all := lw_t5 (List.mem_of_getElem? (i := 120) rfl) rfl
theorem q1157 : (Cond.code yX6_closeByBody cX6_closeByBody 6 (some .char) : Cond) ∈ lw_all := lw_t5 (List.mem_of_getElem? (i := 121) rfl) rfl
theorem q1158 : (Cond.methodLink RX6 375 yX6_closeChallenge : Cond) ∈ lw_all := lw_t5 (List.mem_of_getElem? (i := 122) rfl) rfl
theorem q1160 : (Cond.instanceMethod yX6_closeChallenge : Cond) ∈ lw_all := lw_t5 (List.mem_of_getElem? (i := 124) rfl) rfl
theorem q1161 : (Cond.code yX6_closeChallenge cX6_closeChallenge 4 none : Cond) ∈ lw_all := lw_t5 (List.mem_of_getElem? (i := 125) rfl) rfl
theorem q1162 : (Cond.methodLink RX6 465 yX5_regain : Cond) ∈ lw_all := lw_t5 (List.mem_of_getElem? (i := 126) rfl) rfl
theorem q1163 : (Cond.methodLink RL 285 yL_answer : Cond) ∈ lw_all := lw_t5 (List.mem_of_getElem? (i := 127) rfl) rfl
theorem q1164 : (Cond.static yL_answer : Cond) ∈ lw_all := lw_t5 (List.mem_of_getElem? (i := 128) rfl) rfl
theorem q1165 : (Cond.codeWith yL_answer cL_answer 5 (some .int) [(0, 10, 13, 28), (0, 10, 17, 41)] : Cond) ∈ lw_all := lw_t5 (List.mem_of_getElem? (i := 129) rfl) rfl
theorem q1166 : (Cond.methodLink RL 131 yX6_answer : Cond) ∈ lw_all := lw_t5 (List.mem_of_getElem? (i := 130) rfl) rfl
theorem q1167 : (Cond.instanceMethod yX6_answer : Cond) ∈ lw_all := lw_t5 (List.mem_of_getElem? (i := 131) rfl) rfl
theorem q1168 : (Cond.selects RX6 yX6_answer yX6_answer : Cond) ∈ lw_all := lw_t5 (List.mem_of_getElem? (i := 132) rfl) rfl
theorem q1169 : (Cond.code yX6_answer cX6_answer 5 (some .char) : Cond) ∈ lw_all := lw_t5 (List.mem_of_getElem? (i := 133) rfl) rfl
theorem q1171 : (Cond.methodLink RX6 367 yX6_isTheBody : Cond) ∈ lw_all := lw_t5 (List.mem_of_getElem? (i := 135) rfl) rfl
theorem q1173 : (Cond.instanceMethod yX6_isTheBody : Cond) ∈ lw_all := lw_t5 (List.mem_of_getElem? (i := 137) rfl) rfl
theorem q1174 : (Cond.code yX6_isTheBody cX6_isTheBody 6 (some .boolean) : Cond) ∈ lw_all := lw_t5 (List.mem_of_getElem? (i := 138) rfl) rfl
theorem q1175 : (Cond.methodLink RL 288 yL_open : Cond) ∈ lw_all := lw_t5 (List.mem_of_getElem? (i := 139) rfl) rfl
theorem q1176 : (Cond.static yL_open : Cond) ∈ lw_all := lw_t5 (List.mem_of_getElem? (i := 140) rfl) rfl
theorem q1177 : (Cond.codeWith yL_open cL_open 4 (some .int) [(0, 9, 12, 47)] : Cond) ∈ lw_all := lw_t5 (List.mem_of_getElem? (i := 141) rfl) rfl
theorem q1178 : (Cond.methodLink RL 134 yX6_open : Cond) ∈ lw_all := lw_t5 (List.mem_of_getElem? (i := 142) rfl) rfl
theorem q1179 : (Cond.instanceMethod yX6_open : Cond) ∈ lw_all := lw_t5 (List.mem_of_getElem? (i := 143) rfl) rfl
theorem q1180 : (Cond.selects RX6 yX6_open yX6_open : Cond) ∈ lw_all := lw_t5 (List.mem_of_getElem? (i := 144) rfl) rfl
theorem q1181 : (Cond.code yX6_open cX6_open 2 (some .int) : Cond) ∈ lw_all := lw_t5 (List.mem_of_getElem? (i := 145) rfl) rfl
theorem q1183 : (Cond.methodLink RL 291 yL_left : Cond) ∈ lw_all := lw_t5 (List.mem_of_getElem? (i := 147) rfl) rfl
theorem q1184 : (Cond.static yL_left : Cond) ∈ lw_all := lw_t5 (List.mem_of_getElem? (i := 148) rfl) rfl
theorem q1185 : (Cond.codeWith yL_left cL_left 4 (some .int) [(0, 9, 12, 28), (0, 9, 15, 41)] : Cond) ∈ lw_all := lw_t5 (List.mem_of_getElem? (i := 149) rfl) rfl
theorem q1186 : (Cond.methodLink RL 137 yX6_left : Cond) ∈ lw_all := lw_t5 (List.mem_of_getElem? (i := 150) rfl) rfl
theorem q1187 : (Cond.instanceMethod yX6_left : Cond) ∈ lw_all := lw_t5 (List.mem_of_getElem? (i := 151) rfl) rfl
theorem q1188 : (Cond.selects RX6 yX6_left yX6_left : Cond) ∈ lw_all := lw_t5 (List.mem_of_getElem? (i := 152) rfl) rfl
theorem q1189 : (Cond.code yX6_left cX6_left 3 (some .int) : Cond) ∈ lw_all := lw_t5 (List.mem_of_getElem? (i := 153) rfl) rfl
theorem q1190 : (Cond.methodLink RL 294 yL_days : Cond) ∈ lw_all := lw_t5 (List.mem_of_getElem? (i := 154) rfl) rfl
theorem q1191 : (Cond.static yL_days : Cond) ∈ lw_all := lw_t5 (List.mem_of_getElem? (i := 155) rfl) rfl
theorem q1192 : (Cond.codeWith yL_days cL_days 4 (some .int) [(0, 9, 12, 13)] : Cond) ∈ lw_all := lw_t5 (List.mem_of_getElem? (i := 156) rfl) rfl
theorem q1193 : (Cond.methodLink RL 140 yX6_days : Cond) ∈ lw_all := lw_t5 (List.mem_of_getElem? (i := 157) rfl) rfl
theorem q1194 : (Cond.instanceMethod yX6_days : Cond) ∈ lw_all := lw_t5 (List.mem_of_getElem? (i := 158) rfl) rfl
theorem q1195 : (Cond.selects RX6 yX6_days yX6_days : Cond) ∈ lw_all := lw_t5 (List.mem_of_getElem? (i := 159) rfl) rfl
theorem q1196 : (Cond.code yX6_days cX6_days 5 (some .int) : Cond) ∈ lw_all := lw_t5 (List.mem_of_getElem? (i := 160) rfl) rfl
theorem q1198 : (Cond.methodLink RL 302 yL_standingShare : Cond) ∈ lw_all := lw_t5 (List.mem_of_getElem? (i := 162) rfl) rfl
theorem q1199 : (Cond.static yL_standingShare : Cond) ∈ lw_all := lw_t5 (List.mem_of_getElem? (i := 163) rfl) rfl
theorem q1200 : (Cond.codeWith yL_standingShare cL_standingShare 3 (some .int) [(0, 8, 11, 147)] : Cond) ∈ lw_all := lw_t5 (List.mem_of_getElem? (i := 164) rfl) rfl
theorem q1201 : (Cond.classLink RL 147 "java/lang/ArithmeticException" : Cond) ∈ lw_all := lw_t5 (List.mem_of_getElem? (i := 165) rfl) rfl
theorem q1215 : (Cond.methodLink RL 143 yX6_standingShare : Cond) ∈ lw_all := lw_t5 (List.mem_of_getElem? (i := 179) rfl) rfl
theorem q1216 : (Cond.instanceMethod yX6_standingShare : Cond) ∈ lw_all := lw_t5 (List.mem_of_getElem? (i := 180) rfl) rfl
theorem q1217 : (Cond.selects RX6 yX6_standingShare yX6_standingShare : Cond) ∈ lw_all := lw_t5 (List.mem_of_getElem? (i := 181) rfl) rfl
theorem q1218 : (Cond.code yX6_standingShare cX6_standingShare 3 (some .float) : Cond) ∈ lw_all := lw_t5 (List.mem_of_getElem? (i := 182) rfl) rfl
theorem q1219 : (Cond.classLink RX6 385 "java/lang/ArithmeticException" : Cond) ∈ lw_all := lw_t5 (List.mem_of_getElem? (i := 183) rfl) rfl
theorem q1222 : (Cond.methodLink RL 306 yL_meanSteps : Cond) ∈ lw_all := lw_t5 (List.mem_of_getElem? (i := 186) rfl) rfl
theorem q1223 : (Cond.static yL_meanSteps : Cond) ∈ lw_all := lw_t5 (List.mem_of_getElem? (i := 187) rfl) rfl
theorem q1224 : (Cond.codeWith yL_meanSteps cL_meanSteps 4 (some .int) [(0, 8, 11, 28), (0, 8, 14, 147)] : Cond) ∈ lw_all := lw_t5 (List.mem_of_getElem? (i := 188) rfl) rfl
theorem q1225 : (Cond.methodLink RL 149 yX6_meanSteps : Cond) ∈ lw_all := lw_t5 (List.mem_of_getElem? (i := 189) rfl) rfl
theorem q1226 : (Cond.instanceMethod yX6_meanSteps : Cond) ∈ lw_all := lw_t5 (List.mem_of_getElem? (i := 190) rfl) rfl
theorem q1227 : (Cond.selects RX6 yX6_meanSteps yX6_meanSteps : Cond) ∈ lw_all := lw_t5 (List.mem_of_getElem? (i := 191) rfl) rfl
theorem q1228 : (Cond.code yX6_meanSteps cX6_meanSteps 7 (some .double) : Cond) ∈ lw_all := lw_t5 (List.mem_of_getElem? (i := 192) rfl) rfl
theorem q1230 : (Cond.classLink RL 154 "KatacodeModel" : Cond) ∈ lw_all := lw_t5 (List.mem_of_getElem? (i := 194) rfl) rfl
theorem q1231 : (Cond.instantiable RX7 46 : Cond) ∈ lw_all := lw_t5 (List.mem_of_getElem? (i := 195) rfl) rfl
theorem q1232 : (Cond.methodLink RL 156 yX7_init : Cond) ∈ lw_all := lw_t5 (List.mem_of_getElem? (i := 196) rfl) rfl
theorem q1233 : (Cond.instanceMethod yX7_init : Cond) ∈ lw_all := lw_t5 (List.mem_of_getElem? (i := 197) rfl) rfl
theorem q1234 : (Cond.code yX7_init cX7_init 1 none : Cond) ∈ lw_all := lw_t5 (List.mem_of_getElem? (i := 198) rfl) rfl
theorem q1235 : (Cond.methodLink RX7 1 objectInit : Cond) ∈ lw_all := lw_t5 (List.mem_of_getElem? (i := 199) rfl) rfl
theorem q1236 : (Cond.fieldLink RX7 7 "KatacodeModel" "typed" "I" : Cond) ∈ lw_all := lw_t5 (List.mem_of_getElem? (i := 200) rfl) rfl
theorem q1237 : (Cond.fieldLink RX7 13 "KatacodeModel" "inputs" "I" : Cond) ∈ lw_all := lw_t5 (List.mem_of_getElem? (i := 201) rfl) rfl
theorem q1238 : (Cond.fieldLink RX7 16 "KatacodeModel" "expected" "I" : Cond) ∈ lw_all := lw_t5 (List.mem_of_getElem? (i := 202) rfl) rfl
theorem q1239 : (Cond.fieldLink RX7 19 "KatacodeModel" "katas" "I" : Cond) ∈ lw_all := lw_t5 (List.mem_of_getElem? (i := 203) rfl) rfl
theorem q1240 : (Cond.fieldLink RX7 22 "KatacodeModel" "members" "I" : Cond) ∈ lw_all := lw_t5 (List.mem_of_getElem? (i := 204) rfl) rfl
theorem q1241 : (Cond.fieldLink RX7 25 "KatacodeModel" "works" "I" : Cond) ∈ lw_all := lw_t5 (List.mem_of_getElem? (i := 205) rfl) rfl
theorem q1242 : (Cond.fieldLink RX7 28 "KatacodeModel" "room" "I" : Cond) ∈ lw_all := lw_t5 (List.mem_of_getElem? (i := 206) rfl) rfl
theorem q1243 : (Cond.fieldLink RX7 31 "KatacodeModel" "stamps" "I" : Cond) ∈ lw_all := lw_t5 (List.mem_of_getElem? (i := 207) rfl) rfl
theorem q1244 : (Cond.fieldLink RX7 34 "KatacodeModel" "challenges" "I" : Cond) ∈ lw_all := lw_t5 (List.mem_of_getElem? (i := 208) rfl) rfl
theorem q1245 : (Cond.fieldLink RX7 37 "KatacodeModel" "thrown" "I" : Cond) ∈ lw_all := lw_t5 (List.mem_of_getElem? (i := 209) rfl) rfl
theorem q1246 : (Cond.fieldLink RX7 40 "KatacodeModel" "letters" "[C" : Cond) ∈ lw_all := lw_t5 (List.mem_of_getElem? (i := 210) rfl) rfl
theorem q1247 : (Cond.fieldLink RX7 44 "KatacodeModel" "numbers" "[I" : Cond) ∈ lw_all := lw_t5 (List.mem_of_getElem? (i := 211) rfl) rfl
theorem q1248 : (Cond.fieldLink RX7 48 "KatacodeModel" "sizes" "[I" : Cond) ∈ lw_all := lw_t5 (List.mem_of_getElem? (i := 212) rfl) rfl
theorem q1249 : (Cond.fieldLink RX7 51 "KatacodeModel" "typedIn" "[I" : Cond) ∈ lw_all := lw_t5 (List.mem_of_getElem? (i := 213) rfl) rfl
theorem q1250 : (Cond.fieldLink RX7 54 "KatacodeModel" "typedOut" "[I" : Cond) ∈ lw_all := lw_t5 (List.mem_of_getElem? (i := 214) rfl) rfl
theorem q1251 : (Cond.fieldLink RX7 57 "KatacodeModel" "levels" "[I" : Cond) ∈ lw_all := lw_t5 (List.mem_of_getElem? (i := 215) rfl) rfl
theorem q1252 : (Cond.fieldLink RX7 60 "KatacodeModel" "testCounts" "[I" : Cond) ∈ lw_all := lw_t5 (List.mem_of_getElem? (i := 216) rfl) rfl
theorem q1253 : (Cond.fieldLink RX7 63 "KatacodeModel" "inCounts" "[I" : Cond) ∈ lw_all := lw_t5 (List.mem_of_getElem? (i := 217) rfl) rfl
theorem q1254 : (Cond.fieldLink RX7 66 "KatacodeModel" "outCounts" "[I" : Cond) ∈ lw_all := lw_t5 (List.mem_of_getElem? (i := 218) rfl) rfl
theorem q1255 : (Cond.fieldLink RX7 69 "KatacodeModel" "ins" "[I" : Cond) ∈ lw_all := lw_t5 (List.mem_of_getElem? (i := 219) rfl) rfl
theorem q1256 : (Cond.fieldLink RX7 72 "KatacodeModel" "outs" "[I" : Cond) ∈ lw_all := lw_t5 (List.mem_of_getElem? (i := 220) rfl) rfl
theorem q1257 : (Cond.fieldLink RX7 75 "KatacodeModel" "stamp" "[I" : Cond) ∈ lw_all := lw_t5 (List.mem_of_getElem? (i := 221) rfl) rfl
theorem q1258 : (Cond.fieldLink RX7 78 "KatacodeModel" "memberOf" "[I" : Cond) ∈ lw_all := lw_t5 (List.mem_of_getElem? (i := 222) rfl) rfl
theorem q1259 : (Cond.fieldLink RX7 81 "KatacodeModel" "kataOf" "[I" : Cond) ∈ lw_all := lw_t5 (List.mem_of_getElem? (i := 223) rfl) rfl
theorem q1260 : (Cond.fieldLink RX7 84 "KatacodeModel" "sums" "[J" : Cond) ∈ lw_all := lw_t5 (List.mem_of_getElem? (i := 224) rfl) rfl
theorem q1261 : (Cond.fieldLink RX7 88 "KatacodeModel" "states" "[C" : Cond) ∈ lw_all := lw_t5 (List.mem_of_getElem? (i := 225) rfl) rfl
theorem q1262 : (Cond.fieldLink RX7 91 "KatacodeModel" "hasBody" "[Z" : Cond) ∈ lw_all := lw_t5 (List.mem_of_getElem? (i := 226) rfl) rfl
theorem q1263 : (Cond.fieldLink RX7 95 "KatacodeModel" "kept" "[I" : Cond) ∈ lw_all := lw_t5 (List.mem_of_getElem? (i := 227) rfl) rfl
theorem q1264 : (Cond.fieldLink RX7 98 "KatacodeModel" "keptStamp" "[I" : Cond) ∈ lw_all := lw_t5 (List.mem_of_getElem? (i := 228) rfl) rfl
theorem q1265 : (Cond.fieldLink RX7 101 "KatacodeModel" "styles" "[I" : Cond) ∈ lw_all := lw_t5 (List.mem_of_getElem? (i := 229) rfl) rfl
theorem q1266 : (Cond.fieldLink RX7 104 "KatacodeModel" "weights" "[I" : Cond) ∈ lw_all := lw_t5 (List.mem_of_getElem? (i := 230) rfl) rfl
theorem q1267 : (Cond.fieldLink RX7 107 "KatacodeModel" "challenger" "[I" : Cond) ∈ lw_all := lw_t5 (List.mem_of_getElem? (i := 231) rfl) rfl
theorem q1268 : (Cond.fieldLink RX7 110 "KatacodeModel" "left" "[I" : Cond) ∈ lw_all := lw_t5 (List.mem_of_getElem? (i := 232) rfl) rfl
theorem q1269 : (Cond.fieldLink RX7 113 "KatacodeModel" "told" "[I" : Cond) ∈ lw_all := lw_t5 (List.mem_of_getElem? (i := 233) rfl) rfl
theorem q1270 : (Cond.fieldLink RX7 116 "KatacodeModel" "honours" "[I" : Cond) ∈ lw_all := lw_t5 (List.mem_of_getElem? (i := 234) rfl) rfl
theorem q1271 : (Cond.fieldLink RX7 119 "KatacodeModel" "copies" "[I" : Cond) ∈ lw_all := lw_t5 (List.mem_of_getElem? (i := 235) rfl) rfl
theorem q1272 : (Cond.fieldLink RX7 122 "KatacodeModel" "stack" "[I" : Cond) ∈ lw_all := lw_t5 (List.mem_of_getElem? (i := 236) rfl) rfl
theorem q1273 : (Cond.fieldLink RX7 125 "KatacodeModel" "output" "[I" : Cond) ∈ lw_all := lw_t5 (List.mem_of_getElem? (i := 237) rfl) rfl
theorem q1274 : (Cond.fieldLink RX7 128 "KatacodeModel" "depth" "I" : Cond) ∈ lw_all := lw_t5 (List.mem_of_getElem? (i := 238) rfl) rfl
theorem q1275 : (Cond.fieldLink RX7 131 "KatacodeModel" "outputs" "I" : Cond) ∈ lw_all := lw_t5 (List.mem_of_getElem? (i := 239) rfl) rfl
theorem q1276 : (Cond.fieldLink RX7 134 "KatacodeModel" "done" "I" : Cond) ∈ lw_all := lw_t6 (List.mem_of_getElem? (i := 0) rfl) rfl
theorem q1277 : (Cond.fieldLink RX7 137 "KatacodeModel" "hasRun" "Z" : Cond) ∈ lw_all := lw_t6 (List.mem_of_getElem? (i := 1) rfl) rfl
theorem q1278 : (Cond.fieldLink RX7 141 "KatacodeModel" "lastDepth" "I" : Cond) ∈ lw_all := lw_t6 (List.mem_of_getElem? (i := 2) rfl) rfl
theorem q1279 : (Cond.fieldLink RX7 144 "KatacodeModel" "lastOutputs" "I" : Cond) ∈ lw_all := lw_t6 (List.mem_of_getElem? (i := 3) rfl) rfl
theorem q1280 : (Cond.fieldLink RX7 147 "KatacodeModel" "lastDone" "I" : Cond) ∈ lw_all := lw_t6 (List.mem_of_getElem? (i := 4) rfl) rfl
theorem q1281 : (Cond.fieldLink RX7 150 "KatacodeModel" "lastOutput" "[I" : Cond) ∈ lw_all := lw_t6 (List.mem_of_getElem? (i := 5) rfl) rfl
theorem q1375 : (Cond.arrayClass .long : Cond) ∈ lw_all := lw_t6 (List.mem_of_getElem? (i := 99) rfl) rfl
theorem q1376 : (Cond.arrayClass .boolean : Cond) ∈ lw_all := lw_t6 (List.mem_of_getElem? (i := 100) rfl) rfl
theorem q1377 : (Cond.methodLink RL 205 yX7_thrown : Cond) ∈ lw_all := lw_t6 (List.mem_of_getElem? (i := 101) rfl) rfl
theorem q1378 : (Cond.instanceMethod yX7_thrown : Cond) ∈ lw_all := lw_t6 (List.mem_of_getElem? (i := 102) rfl) rfl
theorem q1379 : (Cond.selects RX7 yX7_thrown yX7_thrown : Cond) ∈ lw_all := lw_t6 (List.mem_of_getElem? (i := 103) rfl) rfl
theorem q1380 : (Cond.code yX7_thrown cX7_thrown 1 (some .int) : Cond) ∈ lw_all := lw_t6 (List.mem_of_getElem? (i := 104) rfl) rfl
theorem q1381 : (Cond.methodLink RL 162 yX7_step : Cond) ∈ lw_all := lw_t6 (List.mem_of_getElem? (i := 105) rfl) rfl
theorem q1382 : (Cond.instanceMethod yX7_step : Cond) ∈ lw_all := lw_t6 (List.mem_of_getElem? (i := 106) rfl) rfl
theorem q1383 : (Cond.selects RX7 yX7_step yX7_step : Cond) ∈ lw_all := lw_t6 (List.mem_of_getElem? (i := 107) rfl) rfl
theorem q1384 : (Cond.code yX7_step cX7_step 3 (some .int) : Cond) ∈ lw_all := lw_t6 (List.mem_of_getElem? (i := 108) rfl) rfl
theorem q1385 : (Cond.methodLink RX7 157 yX7_isLetter : Cond) ∈ lw_all := lw_t6 (List.mem_of_getElem? (i := 109) rfl) rfl
theorem q1386 : (Cond.static yX7_isLetter : Cond) ∈ lw_all := lw_t6 (List.mem_of_getElem? (i := 110) rfl) rfl
theorem q1387 : (Cond.code yX7_isLetter cX7_isLetter 1 (some .boolean) : Cond) ∈ lw_all := lw_t6 (List.mem_of_getElem? (i := 111) rfl) rfl
theorem q1388 : (Cond.methodLink RX7 153 yX7_isOneOf : Cond) ∈ lw_all := lw_t6 (List.mem_of_getElem? (i := 112) rfl) rfl
theorem q1389 : (Cond.static yX7_isOneOf : Cond) ∈ lw_all := lw_t6 (List.mem_of_getElem? (i := 113) rfl) rfl
theorem q1390 : (Cond.code yX7_isOneOf cX7_isOneOf 5 (some .boolean) : Cond) ∈ lw_all := lw_t6 (List.mem_of_getElem? (i := 114) rfl) rfl
theorem q1391 : (Cond.methodLink RX7 161 yX7_in : Cond) ∈ lw_all := lw_t6 (List.mem_of_getElem? (i := 115) rfl) rfl
theorem q1392 : (Cond.static yX7_in : Cond) ∈ lw_all := lw_t6 (List.mem_of_getElem? (i := 116) rfl) rfl
theorem q1393 : (Cond.code yX7_in cX7_in 3 (some .boolean) : Cond) ∈ lw_all := lw_t6 (List.mem_of_getElem? (i := 117) rfl) rfl
theorem q1394 : (Cond.methodLink RX7 165 yX7_fails : Cond) ∈ lw_all := lw_t6 (List.mem_of_getElem? (i := 118) rfl) rfl
theorem q1396 : (Cond.instanceMethod yX7_fails : Cond) ∈ lw_all := lw_t6 (List.mem_of_getElem? (i := 120) rfl) rfl
theorem q1397 : (Cond.code yX7_fails cX7_fails 2 (some .int) : Cond) ∈ lw_all := lw_t6 (List.mem_of_getElem? (i := 121) rfl) rfl
theorem q1398 : (Cond.methodLink RX7 169 yX7_tells : Cond) ∈ lw_all := lw_t6 (List.mem_of_getElem? (i := 122) rfl) rfl
theorem q1400 : (Cond.instanceMethod yX7_tells : Cond) ∈ lw_all := lw_t6 (List.mem_of_getElem? (i := 124) rfl) rfl
theorem q1401 : (Cond.code yX7_tells cX7_tells 2 (some .int) : Cond) ∈ lw_all := lw_t6 (List.mem_of_getElem? (i := 125) rfl) rfl
theorem q1402 : (Cond.methodLink RL 166 yX7_wipe : Cond) ∈ lw_all := lw_t6 (List.mem_of_getElem? (i := 126) rfl) rfl
theorem q1403 : (Cond.instanceMethod yX7_wipe : Cond) ∈ lw_all := lw_t6 (List.mem_of_getElem? (i := 127) rfl) rfl
theorem q1404 : (Cond.selects RX7 yX7_wipe yX7_wipe : Cond) ∈ lw_all := lw_t6 (List.mem_of_getElem? (i := 128) rfl) rfl
theorem q1405 : (Cond.code yX7_wipe cX7_wipe 2 (some .int) : Cond) ∈ lw_all := lw_t6 (List.mem_of_getElem? (i := 129) rfl) rfl
theorem q1406 : (Cond.methodLink RL 170 yX7_number : Cond) ∈ lw_all := lw_t6 (List.mem_of_getElem? (i := 130) rfl) rfl
theorem q1407 : (Cond.instanceMethod yX7_number : Cond) ∈ lw_all := lw_t6 (List.mem_of_getElem? (i := 131) rfl) rfl
theorem q1408 : (Cond.selects RX7 yX7_number yX7_number : Cond) ∈ lw_all := lw_t6 (List.mem_of_getElem? (i := 132) rfl) rfl
theorem q1409 : (Cond.code yX7_number cX7_number 3 (some .int) : Cond) ∈ lw_all := lw_t6 (List.mem_of_getElem? (i := 133) rfl) rfl
theorem q1410 : (Cond.methodLink RL 174 yX7_clear : Cond) ∈ lw_all := lw_t6 (List.mem_of_getElem? (i := 134) rfl) rfl
theorem q1411 : (Cond.instanceMethod yX7_clear : Cond) ∈ lw_all := lw_t6 (List.mem_of_getElem? (i := 135) rfl) rfl
theorem q1412 : (Cond.selects RX7 yX7_clear yX7_clear : Cond) ∈ lw_all := lw_t6 (List.mem_of_getElem? (i := 136) rfl) rfl
theorem q1413 : (Cond.code yX7_clear cX7_clear 1 (some .int) : Cond) ∈ lw_all := lw_t6 (List.mem_of_getElem? (i := 137) rfl) rfl
theorem q1414 : (Cond.methodLink RX7 172 yX7_clears : Cond) ∈ lw_all := lw_t6 (List.mem_of_getElem? (i := 138) rfl) rfl
theorem q1416 : (Cond.instanceMethod yX7_clears : Cond) ∈ lw_all := lw_t6 (List.mem_of_getElem? (i := 140) rfl) rfl
theorem q1417 : (Cond.code yX7_clears cX7_clears 2 (some .int) : Cond) ∈ lw_all := lw_t6 (List.mem_of_getElem? (i := 141) rfl) rfl
theorem q1418 : (Cond.methodLink RL 178 yX7_kata : Cond) ∈ lw_all := lw_t6 (List.mem_of_getElem? (i := 142) rfl) rfl
theorem q1419 : (Cond.instanceMethod yX7_kata : Cond) ∈ lw_all := lw_t6 (List.mem_of_getElem? (i := 143) rfl) rfl
theorem q1420 : (Cond.selects RX7 yX7_kata yX7_kata : Cond) ∈ lw_all := lw_t6 (List.mem_of_getElem? (i := 144) rfl) rfl
theorem q1421 : (Cond.code yX7_kata cX7_kata 2 (some .int) : Cond) ∈ lw_all := lw_t6 (List.mem_of_getElem? (i := 145) rfl) rfl
theorem q1422 : (Cond.methodLink RL 181 yX7_test : Cond) ∈ lw_all := lw_t6 (List.mem_of_getElem? (i := 146) rfl) rfl
theorem q1423 : (Cond.instanceMethod yX7_test : Cond) ∈ lw_all := lw_t6 (List.mem_of_getElem? (i := 147) rfl) rfl
theorem q1424 : (Cond.selects RX7 yX7_test yX7_test : Cond) ∈ lw_all := lw_t6 (List.mem_of_getElem? (i := 148) rfl) rfl
theorem q1425 : (Cond.code yX7_test cX7_test 2 (some .int) : Cond) ∈ lw_all := lw_t6 (List.mem_of_getElem? (i := 149) rfl) rfl
theorem q1426 : (Cond.methodLink RX7 192 yX7_isKata : Cond) ∈ lw_all := lw_t6 (List.mem_of_getElem? (i := 150) rfl) rfl
theorem q1428 : (Cond.instanceMethod yX7_isKata : Cond) ∈ lw_all := lw_t6 (List.mem_of_getElem? (i := 152) rfl) rfl
theorem q1429 : (Cond.code yX7_isKata cX7_isKata 2 (some .boolean) : Cond) ∈ lw_all := lw_t6 (List.mem_of_getElem? (i := 153) rfl) rfl
theorem q1430 : (Cond.methodLink RX7 204 yX7_puts : Cond) ∈ lw_all := lw_t6 (List.mem_of_getElem? (i := 154) rfl) rfl
theorem q1432 : (Cond.instanceMethod yX7_puts : Cond) ∈ lw_all := lw_t6 (List.mem_of_getElem? (i := 156) rfl) rfl
theorem q1433 : (Cond.code yX7_puts cX7_puts 8 (some .int) : Cond) ∈ lw_all := lw_t6 (List.mem_of_getElem? (i := 157) rfl) rfl
theorem q1434 : (Cond.methodLink RX7 196 yX7_passes : Cond) ∈ lw_all := lw_t6 (List.mem_of_getElem? (i := 158) rfl) rfl
theorem q1436 : (Cond.instanceMethod yX7_passes : Cond) ∈ lw_all := lw_t6 (List.mem_of_getElem? (i := 160) rfl) rfl
theorem q1437 : (Cond.code yX7_passes cX7_passes 5 (some .boolean) : Cond) ∈ lw_all := lw_t6 (List.mem_of_getElem? (i := 161) rfl) rfl
theorem q1438 : (Cond.methodLink RX7 200 yX7_runs : Cond) ∈ lw_all := lw_t6 (List.mem_of_getElem? (i := 162) rfl) rfl
theorem q1440 : (Cond.instanceMethod yX7_runs : Cond) ∈ lw_all := lw_t6 (List.mem_of_getElem? (i := 164) rfl) rfl
theorem q1441 : (Cond.code yX7_runs cX7_runs 7 (some .char) : Cond) ∈ lw_all := lw_t6 (List.mem_of_getElem? (i := 165) rfl) rfl
theorem q1442 : (Cond.methodLink RX7 176 yX7_needs : Cond) ∈ lw_all := lw_t6 (List.mem_of_getElem? (i := 166) rfl) rfl
theorem q1443 : (Cond.static yX7_needs : Cond) ∈ lw_all := lw_t6 (List.mem_of_getElem? (i := 167) rfl) rfl
theorem q1444 : (Cond.code yX7_needs cX7_needs 1 (some .int) : Cond) ∈ lw_all := lw_t6 (List.mem_of_getElem? (i := 168) rfl) rfl
theorem q1445 : (Cond.methodLink RX7 180 yX7_partner : Cond) ∈ lw_all := lw_t6 (List.mem_of_getElem? (i := 169) rfl) rfl
theorem q1447 : (Cond.instanceMethod yX7_partner : Cond) ∈ lw_all := lw_t6 (List.mem_of_getElem? (i := 171) rfl) rfl
theorem q1448 : (Cond.code yX7_partner cX7_partner 6 (some .int) : Cond) ∈ lw_all := lw_t6 (List.mem_of_getElem? (i := 172) rfl) rfl
theorem q1449 : (Cond.methodLink RX7 184 yX7_changes : Cond) ∈ lw_all := lw_t6 (List.mem_of_getElem? (i := 173) rfl) rfl
theorem q1451 : (Cond.instanceMethod yX7_changes : Cond) ∈ lw_all := lw_t6 (List.mem_of_getElem? (i := 175) rfl) rfl
theorem q1452 : (Cond.code yX7_changes cX7_changes 4 none : Cond) ∈ lw_all := lw_t6 (List.mem_of_getElem? (i := 176) rfl) rfl
theorem q1453 : (Cond.methodLink RL 185 yX7_fix : Cond) ∈ lw_all := lw_t6 (List.mem_of_getElem? (i := 177) rfl) rfl
theorem q1454 : (Cond.instanceMethod yX7_fix : Cond) ∈ lw_all := lw_t6 (List.mem_of_getElem? (i := 178) rfl) rfl
theorem q1455 : (Cond.selects RX7 yX7_fix yX7_fix : Cond) ∈ lw_all := lw_t6 (List.mem_of_getElem? (i := 179) rfl) rfl
theorem q1456 : (Cond.code yX7_fix cX7_fix 3 (some .int) : Cond) ∈ lw_all := lw_t6 (List.mem_of_getElem? (i := 180) rfl) rfl
theorem q1457 : (Cond.methodLink RX7 208 yX7_isTest : Cond) ∈ lw_all := lw_t6 (List.mem_of_getElem? (i := 181) rfl) rfl
theorem q1459 : (Cond.instanceMethod yX7_isTest : Cond) ∈ lw_all := lw_t6 (List.mem_of_getElem? (i := 183) rfl) rfl
theorem q1460 : (Cond.code yX7_isTest cX7_isTest 3 (some .boolean) : Cond) ∈ lw_all := lw_t6 (List.mem_of_getElem? (i := 184) rfl) rfl
theorem q1461 : (Cond.methodLink RL 188 yX7_tests : Cond) ∈ lw_all := lw_t6 (List.mem_of_getElem? (i := 185) rfl) rfl
theorem q1462 : (Cond.instanceMethod yX7_tests : Cond) ∈ lw_all := lw_t6 (List.mem_of_getElem? (i := 186) rfl) rfl
theorem q1463 : (Cond.selects RX7 yX7_tests yX7_tests : Cond) ∈ lw_all := lw_t6 (List.mem_of_getElem? (i := 187) rfl) rfl
theorem q1464 : (Cond.code yX7_tests cX7_tests 2 (some .int) : Cond) ∈ lw_all := lw_t6 (List.mem_of_getElem? (i := 188) rfl) rfl
theorem q1465 : (Cond.methodLink RL 191 yX7_run : Cond) ∈ lw_all := lw_t6 (List.mem_of_getElem? (i := 189) rfl) rfl
theorem q1466 : (Cond.instanceMethod yX7_run : Cond) ∈ lw_all := lw_t6 (List.mem_of_getElem? (i := 190) rfl) rfl
theorem q1467 : (Cond.selects RX7 yX7_run yX7_run : Cond) ∈ lw_all := lw_t6 (List.mem_of_getElem? (i := 191) rfl) rfl
theorem q1468 : (Cond.code yX7_run cX7_run 5 (some .char) : Cond) ∈ lw_all := lw_t6 (List.mem_of_getElem? (i := 192) rfl) rfl
theorem q1469 : (Cond.methodLink RX7 211 yX7_isWhole : Cond) ∈ lw_all := lw_t6 (List.mem_of_getElem? (i := 193) rfl) rfl
theorem q1471 : (Cond.instanceMethod yX7_isWhole : Cond) ∈ lw_all := lw_t6 (List.mem_of_getElem? (i := 195) rfl) rfl
theorem q1472 : (Cond.code yX7_isWhole cX7_isWhole 5 (some .boolean) : Cond) ∈ lw_all := lw_t6 (List.mem_of_getElem? (i := 196) rfl) rfl
theorem q1473 : (Cond.methodLink RL 195 yX7_done : Cond) ∈ lw_all := lw_t6 (List.mem_of_getElem? (i := 197) rfl) rfl
theorem q1474 : (Cond.instanceMethod yX7_done : Cond) ∈ lw_all := lw_t6 (List.mem_of_getElem? (i := 198) rfl) rfl
theorem q1475 : (Cond.selects RX7 yX7_done yX7_done : Cond) ∈ lw_all := lw_t6 (List.mem_of_getElem? (i := 199) rfl) rfl
theorem q1476 : (Cond.code yX7_done cX7_done 1 (some .int) : Cond) ∈ lw_all := lw_t6 (List.mem_of_getElem? (i := 200) rfl) rfl
theorem q1477 : (Cond.methodLink RL 198 yX7_outputs : Cond) ∈ lw_all := lw_t6 (List.mem_of_getElem? (i := 201) rfl) rfl
theorem q1478 : (Cond.instanceMethod yX7_outputs : Cond) ∈ lw_all := lw_t6 (List.mem_of_getElem? (i := 202) rfl) rfl
theorem q1479 : (Cond.selects RX7 yX7_outputs yX7_outputs : Cond) ∈ lw_all := lw_t6 (List.mem_of_getElem? (i := 203) rfl) rfl
theorem q1480 : (Cond.code yX7_outputs cX7_outputs 1 (some .int) : Cond) ∈ lw_all := lw_t6 (List.mem_of_getElem? (i := 204) rfl) rfl
theorem q1481 : (Cond.methodLink RL 201 yX7_output : Cond) ∈ lw_all := lw_t6 (List.mem_of_getElem? (i := 205) rfl) rfl
theorem q1482 : (Cond.instanceMethod yX7_output : Cond) ∈ lw_all := lw_t6 (List.mem_of_getElem? (i := 206) rfl) rfl
theorem q1483 : (Cond.selects RX7 yX7_output yX7_output : Cond) ∈ lw_all := lw_t6 (List.mem_of_getElem? (i := 207) rfl) rfl
theorem q1484 : (Cond.code yX7_output cX7_output 2 (some .int) : Cond) ∈ lw_all := lw_t6 (List.mem_of_getElem? (i := 208) rfl) rfl
theorem q1485 : (Cond.methodLink RL 204 yX7_depth : Cond) ∈ lw_all := lw_t6 (List.mem_of_getElem? (i := 209) rfl) rfl
theorem q1486 : (Cond.instanceMethod yX7_depth : Cond) ∈ lw_all := lw_t6 (List.mem_of_getElem? (i := 210) rfl) rfl
theorem q1487 : (Cond.selects RX7 yX7_depth yX7_depth : Cond) ∈ lw_all := lw_t6 (List.mem_of_getElem? (i := 211) rfl) rfl
theorem q1488 : (Cond.code yX7_depth cX7_depth 1 (some .int) : Cond) ∈ lw_all := lw_t6 (List.mem_of_getElem? (i := 212) rfl) rfl
theorem q1489 : (Cond.methodLink RL 210 yX7_member : Cond) ∈ lw_all := lw_t6 (List.mem_of_getElem? (i := 213) rfl) rfl
theorem q1490 : (Cond.instanceMethod yX7_member : Cond) ∈ lw_all := lw_t6 (List.mem_of_getElem? (i := 214) rfl) rfl
theorem q1491 : (Cond.selects RX7 yX7_member yX7_member : Cond) ∈ lw_all := lw_t6 (List.mem_of_getElem? (i := 215) rfl) rfl
theorem q1492 : (Cond.code yX7_member cX7_member 1 (some .int) : Cond) ∈ lw_all := lw_t6 (List.mem_of_getElem? (i := 216) rfl) rfl
theorem q1493 : (Cond.methodLink RL 213 yX7_submit : Cond) ∈ lw_all := lw_t6 (List.mem_of_getElem? (i := 217) rfl) rfl
theorem q1494 : (Cond.instanceMethod yX7_submit : Cond) ∈ lw_all := lw_t6 (List.mem_of_getElem? (i := 218) rfl) rfl
theorem q1495 : (Cond.selects RX7 yX7_submit yX7_submit : Cond) ∈ lw_all := lw_t6 (List.mem_of_getElem? (i := 219) rfl) rfl
theorem q1496 : (Cond.code yX7_submit cX7_submit 5 (some .int) : Cond) ∈ lw_all := lw_t6 (List.mem_of_getElem? (i := 220) rfl) rfl
theorem q1497 : (Cond.methodLink RX7 214 yX7_isMember : Cond) ∈ lw_all := lw_t6 (List.mem_of_getElem? (i := 221) rfl) rfl
theorem q1499 : (Cond.instanceMethod yX7_isMember : Cond) ∈ lw_all := lw_t6 (List.mem_of_getElem? (i := 223) rfl) rfl
theorem q1500 : (Cond.code yX7_isMember cX7_isMember 2 (some .boolean) : Cond) ∈ lw_all := lw_t6 (List.mem_of_getElem? (i := 224) rfl) rfl
theorem q1501 : (Cond.methodLink RX7 217 yX7_copies : Cond) ∈ lw_all := lw_t6 (List.mem_of_getElem? (i := 225) rfl) rfl
theorem q1503 : (Cond.instanceMethod yX7_copies : Cond) ∈ lw_all := lw_t6 (List.mem_of_getElem? (i := 227) rfl) rfl
theorem q1504 : (Cond.code yX7_copies cX7_copies 4 none : Cond) ∈ lw_all := lw_t6 (List.mem_of_getElem? (i := 228) rfl) rfl
theorem q1505 : (Cond.methodLink RX7 220 yX7_sumOf : Cond) ∈ lw_all := lw_t6 (List.mem_of_getElem? (i := 229) rfl) rfl
theorem q1507 : (Cond.instanceMethod yX7_sumOf : Cond) ∈ lw_all := lw_t6 (List.mem_of_getElem? (i := 231) rfl) rfl
theorem q1508 : (Cond.code yX7_sumOf cX7_sumOf 5 (some .long) : Cond) ∈ lw_all := lw_t6 (List.mem_of_getElem? (i := 232) rfl) rfl
theorem q1509 : (Cond.constantLong RX7 188 (17) : Cond) ∈ lw_all := lw_t6 (List.mem_of_getElem? (i := 233) rfl) rfl
theorem q1510 : (Cond.constantLong RX7 190 (31) : Cond) ∈ lw_all := lw_t6 (List.mem_of_getElem? (i := 234) rfl) rfl
theorem q1511 : (Cond.methodLink RX7 224 yX7_makesRoom : Cond) ∈ lw_all := lw_t6 (List.mem_of_getElem? (i := 235) rfl) rfl
theorem q1513 : (Cond.instanceMethod yX7_makesRoom : Cond) ∈ lw_all := lw_t6 (List.mem_of_getElem? (i := 237) rfl) rfl
theorem q1514 : (Cond.code yX7_makesRoom cX7_makesRoom 4 (some .int) : Cond) ∈ lw_all := lw_t6 (List.mem_of_getElem? (i := 238) rfl) rfl
theorem q1515 : (Cond.methodLink RX7 243 yX7_bodyCount : Cond) ∈ lw_all := lw_t6 (List.mem_of_getElem? (i := 239) rfl) rfl
theorem q1517 : (Cond.instanceMethod yX7_bodyCount : Cond) ∈ lw_all := lw_t7 (List.mem_of_getElem? (i := 1) rfl) rfl
theorem q1518 : (Cond.code yX7_bodyCount cX7_bodyCount 3 (some .int) : Cond) ∈ lw_all := lw_t7 (List.mem_of_getElem? (i := 2) rfl) rfl
theorem q1519 : (Cond.methodLink RX7 246 yX7_isWorse : Cond) ∈ lw_all := lw_t7 (List.mem_of_getElem? (i := 3) rfl) rfl
theorem q1521 : (Cond.instanceMethod yX7_isWorse : Cond) ∈ lw_all := lw_t7 (List.mem_of_getElem? (i := 5) rfl) rfl
theorem q1522 : (Cond.code yX7_isWorse cX7_isWorse 3 (some .boolean) : Cond) ∈ lw_all := lw_t7 (List.mem_of_getElem? (i := 6) rfl) rfl
theorem q1523 : (Cond.methodLink RX7 233 yX7_weightOf : Cond) ∈ lw_all := lw_t7 (List.mem_of_getElem? (i := 7) rfl) rfl
theorem q1525 : (Cond.instanceMethod yX7_weightOf : Cond) ∈ lw_all := lw_t7 (List.mem_of_getElem? (i := 9) rfl) rfl
theorem q1526 : (Cond.code yX7_weightOf cX7_weightOf 4 (some .int) : Cond) ∈ lw_all := lw_t7 (List.mem_of_getElem? (i := 10) rfl) rfl
theorem q1527 : (Cond.methodLink RX7 249 yX7_drops : Cond) ∈ lw_all := lw_t7 (List.mem_of_getElem? (i := 11) rfl) rfl
theorem q1529 : (Cond.instanceMethod yX7_drops : Cond) ∈ lw_all := lw_t7 (List.mem_of_getElem? (i := 13) rfl) rfl
theorem q1530 : (Cond.code yX7_drops cX7_drops 2 none : Cond) ∈ lw_all := lw_t7 (List.mem_of_getElem? (i := 14) rfl) rfl
theorem q1531 : (Cond.methodLink RX7 239 yX7_loses : Cond) ∈ lw_all := lw_t7 (List.mem_of_getElem? (i := 15) rfl) rfl
theorem q1533 : (Cond.instanceMethod yX7_loses : Cond) ∈ lw_all := lw_t7 (List.mem_of_getElem? (i := 17) rfl) rfl
theorem q1534 : (Cond.code yX7_loses cX7_loses 6 none : Cond) ∈ lw_all := lw_t7 (List.mem_of_getElem? (i := 18) rfl) rfl
theorem q1535 : (Cond.methodLink RX7 236 yX7_stepsOf : Cond) ∈ lw_all := lw_t7 (List.mem_of_getElem? (i := 19) rfl) rfl
theorem q1537 : (Cond.instanceMethod yX7_stepsOf : Cond) ∈ lw_all := lw_t7 (List.mem_of_getElem? (i := 21) rfl) rfl
theorem q1538 : (Cond.code yX7_stepsOf cX7_stepsOf 4 (some .int) : Cond) ∈ lw_all := lw_t7 (List.mem_of_getElem? (i := 22) rfl) rfl
theorem q1539 : (Cond.methodLink RL 217 yX7_works : Cond) ∈ lw_all := lw_t7 (List.mem_of_getElem? (i := 23) rfl) rfl
theorem q1540 : (Cond.instanceMethod yX7_works : Cond) ∈ lw_all := lw_t7 (List.mem_of_getElem? (i := 24) rfl) rfl
theorem q1541 : (Cond.selects RX7 yX7_works yX7_works : Cond) ∈ lw_all := lw_t7 (List.mem_of_getElem? (i := 25) rfl) rfl
theorem q1542 : (Cond.code yX7_works cX7_works 1 (some .int) : Cond) ∈ lw_all := lw_t7 (List.mem_of_getElem? (i := 26) rfl) rfl
theorem q1543 : (Cond.methodLink RL 221 yX7_of : Cond) ∈ lw_all := lw_t7 (List.mem_of_getElem? (i := 27) rfl) rfl
theorem q1544 : (Cond.instanceMethod yX7_of : Cond) ∈ lw_all := lw_t7 (List.mem_of_getElem? (i := 28) rfl) rfl
theorem q1545 : (Cond.selects RX7 yX7_of yX7_of : Cond) ∈ lw_all := lw_t7 (List.mem_of_getElem? (i := 29) rfl) rfl
theorem q1546 : (Cond.code yX7_of cX7_of 3 (some .int) : Cond) ∈ lw_all := lw_t7 (List.mem_of_getElem? (i := 30) rfl) rfl
theorem q1547 : (Cond.methodLink RX7 227 yX7_isWork : Cond) ∈ lw_all := lw_t7 (List.mem_of_getElem? (i := 31) rfl) rfl
theorem q1549 : (Cond.instanceMethod yX7_isWork : Cond) ∈ lw_all := lw_t7 (List.mem_of_getElem? (i := 33) rfl) rfl
theorem q1550 : (Cond.code yX7_isWork cX7_isWork 2 (some .boolean) : Cond) ∈ lw_all := lw_t7 (List.mem_of_getElem? (i := 34) rfl) rfl
theorem q1551 : (Cond.methodLink RX7 230 yX7_votesOf : Cond) ∈ lw_all := lw_t7 (List.mem_of_getElem? (i := 35) rfl) rfl
theorem q1553 : (Cond.instanceMethod yX7_votesOf : Cond) ∈ lw_all := lw_t7 (List.mem_of_getElem? (i := 37) rfl) rfl
theorem q1554 : (Cond.code yX7_votesOf cX7_votesOf 4 (some .int) : Cond) ∈ lw_all := lw_t7 (List.mem_of_getElem? (i := 38) rfl) rfl
theorem q1555 : (Cond.methodLink RL 224 yX7_state : Cond) ∈ lw_all := lw_t7 (List.mem_of_getElem? (i := 39) rfl) rfl
theorem q1556 : (Cond.instanceMethod yX7_state : Cond) ∈ lw_all := lw_t7 (List.mem_of_getElem? (i := 40) rfl) rfl
theorem q1557 : (Cond.selects RX7 yX7_state yX7_state : Cond) ∈ lw_all := lw_t7 (List.mem_of_getElem? (i := 41) rfl) rfl
theorem q1558 : (Cond.code yX7_state cX7_state 2 (some .char) : Cond) ∈ lw_all := lw_t7 (List.mem_of_getElem? (i := 42) rfl) rfl
theorem q1559 : (Cond.methodLink RL 227 yX7_sum : Cond) ∈ lw_all := lw_t7 (List.mem_of_getElem? (i := 43) rfl) rfl
theorem q1560 : (Cond.instanceMethod yX7_sum : Cond) ∈ lw_all := lw_t7 (List.mem_of_getElem? (i := 44) rfl) rfl
theorem q1561 : (Cond.selects RX7 yX7_sum yX7_sum : Cond) ∈ lw_all := lw_t7 (List.mem_of_getElem? (i := 45) rfl) rfl
theorem q1562 : (Cond.code yX7_sum cX7_sum 2 (some .long) : Cond) ∈ lw_all := lw_t7 (List.mem_of_getElem? (i := 46) rfl) rfl
theorem q1563 : (Cond.methodLink RL 230 yX7_steps : Cond) ∈ lw_all := lw_t7 (List.mem_of_getElem? (i := 47) rfl) rfl
theorem q1564 : (Cond.instanceMethod yX7_steps : Cond) ∈ lw_all := lw_t7 (List.mem_of_getElem? (i := 48) rfl) rfl
theorem q1565 : (Cond.selects RX7 yX7_steps yX7_steps : Cond) ∈ lw_all := lw_t7 (List.mem_of_getElem? (i := 49) rfl) rfl
theorem q1566 : (Cond.code yX7_steps cX7_steps 4 (some .int) : Cond) ∈ lw_all := lw_t7 (List.mem_of_getElem? (i := 50) rfl) rfl
theorem q1567 : (Cond.methodLink RL 233 yX7_hasBody : Cond) ∈ lw_all := lw_t7 (List.mem_of_getElem? (i := 51) rfl) rfl
theorem q1568 : (Cond.instanceMethod yX7_hasBody : Cond) ∈ lw_all := lw_t7 (List.mem_of_getElem? (i := 52) rfl) rfl
theorem q1569 : (Cond.selects RX7 yX7_hasBody yX7_hasBody : Cond) ∈ lw_all := lw_t7 (List.mem_of_getElem? (i := 53) rfl) rfl
theorem q1570 : (Cond.code yX7_hasBody cX7_hasBody 2 (some .boolean) : Cond) ∈ lw_all := lw_t7 (List.mem_of_getElem? (i := 54) rfl) rfl
theorem q1571 : (Cond.methodLink RL 236 yX7_letter : Cond) ∈ lw_all := lw_t7 (List.mem_of_getElem? (i := 55) rfl) rfl
theorem q1572 : (Cond.instanceMethod yX7_letter : Cond) ∈ lw_all := lw_t7 (List.mem_of_getElem? (i := 56) rfl) rfl
theorem q1573 : (Cond.selects RX7 yX7_letter yX7_letter : Cond) ∈ lw_all := lw_t7 (List.mem_of_getElem? (i := 57) rfl) rfl
theorem q1574 : (Cond.code yX7_letter cX7_letter 3 (some .char) : Cond) ∈ lw_all := lw_t7 (List.mem_of_getElem? (i := 58) rfl) rfl
theorem q1575 : (Cond.methodLink RL 239 yX7_drop : Cond) ∈ lw_all := lw_t7 (List.mem_of_getElem? (i := 59) rfl) rfl
theorem q1576 : (Cond.instanceMethod yX7_drop : Cond) ∈ lw_all := lw_t7 (List.mem_of_getElem? (i := 60) rfl) rfl
theorem q1577 : (Cond.selects RX7 yX7_drop yX7_drop : Cond) ∈ lw_all := lw_t7 (List.mem_of_getElem? (i := 61) rfl) rfl
theorem q1578 : (Cond.code yX7_drop cX7_drop 2 (some .int) : Cond) ∈ lw_all := lw_t7 (List.mem_of_getElem? (i := 62) rfl) rfl
theorem q1579 : (Cond.methodLink RL 242 yX7_capacity : Cond) ∈ lw_all := lw_t7 (List.mem_of_getElem? (i := 63) rfl) rfl
theorem q1580 : (Cond.instanceMethod yX7_capacity : Cond) ∈ lw_all := lw_t7 (List.mem_of_getElem? (i := 64) rfl) rfl
theorem q1581 : (Cond.selects RX7 yX7_capacity yX7_capacity : Cond) ∈ lw_all := lw_t7 (List.mem_of_getElem? (i := 65) rfl) rfl
theorem q1582 : (Cond.code yX7_capacity cX7_capacity 2 (some .int) : Cond) ∈ lw_all := lw_t7 (List.mem_of_getElem? (i := 66) rfl) rfl
theorem q1583 : (Cond.methodLink RL 246 yX7_bodies : Cond) ∈ lw_all := lw_t7 (List.mem_of_getElem? (i := 67) rfl) rfl
theorem q1584 : (Cond.instanceMethod yX7_bodies : Cond) ∈ lw_all := lw_t7 (List.mem_of_getElem? (i := 68) rfl) rfl
theorem q1585 : (Cond.selects RX7 yX7_bodies yX7_bodies : Cond) ∈ lw_all := lw_t7 (List.mem_of_getElem? (i := 69) rfl) rfl
theorem q1586 : (Cond.code yX7_bodies cX7_bodies 1 (some .int) : Cond) ∈ lw_all := lw_t7 (List.mem_of_getElem? (i := 70) rfl) rfl
theorem q1587 : (Cond.methodLink RL 249 yX7_read : Cond) ∈ lw_all := lw_t7 (List.mem_of_getElem? (i := 71) rfl) rfl
theorem q1588 : (Cond.instanceMethod yX7_read : Cond) ∈ lw_all := lw_t7 (List.mem_of_getElem? (i := 72) rfl) rfl
theorem q1589 : (Cond.selects RX7 yX7_read yX7_read : Cond) ∈ lw_all := lw_t7 (List.mem_of_getElem? (i := 73) rfl) rfl
theorem q1590 : (Cond.code yX7_read cX7_read 7 (some .int) : Cond) ∈ lw_all := lw_t7 (List.mem_of_getElem? (i := 74) rfl) rfl
theorem q1591 : (Cond.methodLink RX7 253 yX7_copyCount : Cond) ∈ lw_all := lw_t7 (List.mem_of_getElem? (i := 75) rfl) rfl
theorem q1593 : (Cond.instanceMethod yX7_copyCount : Cond) ∈ lw_all := lw_t7 (List.mem_of_getElem? (i := 77) rfl) rfl
theorem q1594 : (Cond.code yX7_copyCount cX7_copyCount 3 (some .int) : Cond) ∈ lw_all := lw_t7 (List.mem_of_getElem? (i := 78) rfl) rfl
theorem q1595 : (Cond.methodLink RL 252 yX7_copy : Cond) ∈ lw_all := lw_t7 (List.mem_of_getElem? (i := 79) rfl) rfl
theorem q1596 : (Cond.instanceMethod yX7_copy : Cond) ∈ lw_all := lw_t7 (List.mem_of_getElem? (i := 80) rfl) rfl
theorem q1597 : (Cond.selects RX7 yX7_copy yX7_copy : Cond) ∈ lw_all := lw_t7 (List.mem_of_getElem? (i := 81) rfl) rfl
theorem q1598 : (Cond.code yX7_copy cX7_copy 3 (some .int) : Cond) ∈ lw_all := lw_t7 (List.mem_of_getElem? (i := 82) rfl) rfl
theorem q1599 : (Cond.methodLink RL 256 yX7_vote : Cond) ∈ lw_all := lw_t7 (List.mem_of_getElem? (i := 83) rfl) rfl
theorem q1600 : (Cond.instanceMethod yX7_vote : Cond) ∈ lw_all := lw_t7 (List.mem_of_getElem? (i := 84) rfl) rfl
theorem q1601 : (Cond.selects RX7 yX7_vote yX7_vote : Cond) ∈ lw_all := lw_t7 (List.mem_of_getElem? (i := 85) rfl) rfl
theorem q1602 : (Cond.code yX7_vote cX7_vote 5 (some .int) : Cond) ∈ lw_all := lw_t7 (List.mem_of_getElem? (i := 86) rfl) rfl
theorem q1603 : (Cond.methodLink RX7 256 yX7_beltOf : Cond) ∈ lw_all := lw_t7 (List.mem_of_getElem? (i := 87) rfl) rfl
theorem q1605 : (Cond.instanceMethod yX7_beltOf : Cond) ∈ lw_all := lw_t7 (List.mem_of_getElem? (i := 89) rfl) rfl
theorem q1606 : (Cond.code yX7_beltOf cX7_beltOf 6 (some .int) : Cond) ∈ lw_all := lw_t7 (List.mem_of_getElem? (i := 90) rfl) rfl
theorem q1607 : (Cond.methodLink RX7 271 yX7_bestOf : Cond) ∈ lw_all := lw_t7 (List.mem_of_getElem? (i := 91) rfl) rfl
theorem q1609 : (Cond.instanceMethod yX7_bestOf : Cond) ∈ lw_all := lw_t7 (List.mem_of_getElem? (i := 93) rfl) rfl
theorem q1610 : (Cond.code yX7_bestOf cX7_bestOf 6 (some .int) : Cond) ∈ lw_all := lw_t7 (List.mem_of_getElem? (i := 94) rfl) rfl
theorem q1611 : (Cond.methodLink RX7 265 yX7_counts : Cond) ∈ lw_all := lw_t7 (List.mem_of_getElem? (i := 95) rfl) rfl
theorem q1613 : (Cond.instanceMethod yX7_counts : Cond) ∈ lw_all := lw_t7 (List.mem_of_getElem? (i := 97) rfl) rfl
theorem q1614 : (Cond.code yX7_counts cX7_counts 2 (some .boolean) : Cond) ∈ lw_all := lw_t7 (List.mem_of_getElem? (i := 98) rfl) rfl
theorem q1615 : (Cond.methodLink RX7 268 yX7_isGreater : Cond) ∈ lw_all := lw_t7 (List.mem_of_getElem? (i := 99) rfl) rfl
theorem q1617 : (Cond.instanceMethod yX7_isGreater : Cond) ∈ lw_all := lw_t7 (List.mem_of_getElem? (i := 101) rfl) rfl
theorem q1618 : (Cond.code yX7_isGreater cX7_isGreater 7 (some .boolean) : Cond) ∈ lw_all := lw_t7 (List.mem_of_getElem? (i := 102) rfl) rfl
theorem q1619 : (Cond.methodLink RX7 259 yX7_weighed : Cond) ∈ lw_all := lw_t7 (List.mem_of_getElem? (i := 103) rfl) rfl
theorem q1621 : (Cond.instanceMethod yX7_weighed : Cond) ∈ lw_all := lw_t7 (List.mem_of_getElem? (i := 105) rfl) rfl
theorem q1622 : (Cond.code yX7_weighed cX7_weighed 4 (some .int) : Cond) ∈ lw_all := lw_t7 (List.mem_of_getElem? (i := 106) rfl) rfl
theorem q1623 : (Cond.methodLink RX7 274 yX7_pointsOf : Cond) ∈ lw_all := lw_t7 (List.mem_of_getElem? (i := 107) rfl) rfl
theorem q1625 : (Cond.instanceMethod yX7_pointsOf : Cond) ∈ lw_all := lw_t7 (List.mem_of_getElem? (i := 109) rfl) rfl
theorem q1626 : (Cond.code yX7_pointsOf cX7_pointsOf 6 (some .float) : Cond) ∈ lw_all := lw_t7 (List.mem_of_getElem? (i := 110) rfl) rfl
theorem q1627 : (Cond.methodLink RL 259 yX7_style : Cond) ∈ lw_all := lw_t7 (List.mem_of_getElem? (i := 111) rfl) rfl
theorem q1628 : (Cond.instanceMethod yX7_style : Cond) ∈ lw_all := lw_t7 (List.mem_of_getElem? (i := 112) rfl) rfl
theorem q1629 : (Cond.selects RX7 yX7_style yX7_style : Cond) ∈ lw_all := lw_t7 (List.mem_of_getElem? (i := 113) rfl) rfl
theorem q1630 : (Cond.code yX7_style cX7_style 8 (some .long) : Cond) ∈ lw_all := lw_t7 (List.mem_of_getElem? (i := 114) rfl) rfl
theorem q1631 : (Cond.methodLink RL 262 yX7_review : Cond) ∈ lw_all := lw_t7 (List.mem_of_getElem? (i := 115) rfl) rfl
theorem q1632 : (Cond.instanceMethod yX7_review : Cond) ∈ lw_all := lw_t7 (List.mem_of_getElem? (i := 116) rfl) rfl
theorem q1633 : (Cond.selects RX7 yX7_review yX7_review : Cond) ∈ lw_all := lw_t7 (List.mem_of_getElem? (i := 117) rfl) rfl
theorem q1634 : (Cond.code yX7_review cX7_review 5 (some .int) : Cond) ∈ lw_all := lw_t7 (List.mem_of_getElem? (i := 118) rfl) rfl
theorem q1635 : (Cond.methodLink RX7 262 yX7_isAhead : Cond) ∈ lw_all := lw_t7 (List.mem_of_getElem? (i := 119) rfl) rfl
theorem q1637 : (Cond.instanceMethod yX7_isAhead : Cond) ∈ lw_all := lw_t7 (List.mem_of_getElem? (i := 121) rfl) rfl
theorem q1638 : (Cond.code yX7_isAhead cX7_isAhead 4 (some .boolean) : Cond) ∈ lw_all := lw_t7 (List.mem_of_getElem? (i := 122) rfl) rfl
theorem q1639 : (Cond.methodLink RL 265 yX7_best : Cond) ∈ lw_all := lw_t7 (List.mem_of_getElem? (i := 123) rfl) rfl
theorem q1640 : (Cond.instanceMethod yX7_best : Cond) ∈ lw_all := lw_t7 (List.mem_of_getElem? (i := 124) rfl) rfl
theorem q1641 : (Cond.selects RX7 yX7_best yX7_best : Cond) ∈ lw_all := lw_t7 (List.mem_of_getElem? (i := 125) rfl) rfl
theorem q1642 : (Cond.code yX7_best cX7_best 4 (some .int) : Cond) ∈ lw_all := lw_t7 (List.mem_of_getElem? (i := 126) rfl) rfl
theorem q1643 : (Cond.methodLink RL 269 yX7_points : Cond) ∈ lw_all := lw_t7 (List.mem_of_getElem? (i := 127) rfl) rfl
theorem q1644 : (Cond.instanceMethod yX7_points : Cond) ∈ lw_all := lw_t7 (List.mem_of_getElem? (i := 128) rfl) rfl
theorem q1645 : (Cond.selects RX7 yX7_points yX7_points : Cond) ∈ lw_all := lw_t7 (List.mem_of_getElem? (i := 129) rfl) rfl
theorem q1646 : (Cond.code yX7_points cX7_points 2 (some .float) : Cond) ∈ lw_all := lw_t7 (List.mem_of_getElem? (i := 130) rfl) rfl
theorem q1647 : (Cond.methodLink RL 272 yX7_belt : Cond) ∈ lw_all := lw_t7 (List.mem_of_getElem? (i := 131) rfl) rfl
theorem q1648 : (Cond.instanceMethod yX7_belt : Cond) ∈ lw_all := lw_t7 (List.mem_of_getElem? (i := 132) rfl) rfl
theorem q1649 : (Cond.selects RX7 yX7_belt yX7_belt : Cond) ∈ lw_all := lw_t7 (List.mem_of_getElem? (i := 133) rfl) rfl
theorem q1650 : (Cond.code yX7_belt cX7_belt 2 (some .int) : Cond) ∈ lw_all := lw_t7 (List.mem_of_getElem? (i := 134) rfl) rfl
theorem q1651 : (Cond.methodLink RL 275 yX7_honour : Cond) ∈ lw_all := lw_t7 (List.mem_of_getElem? (i := 135) rfl) rfl
theorem q1652 : (Cond.instanceMethod yX7_honour : Cond) ∈ lw_all := lw_t7 (List.mem_of_getElem? (i := 136) rfl) rfl
theorem q1653 : (Cond.selects RX7 yX7_honour yX7_honour : Cond) ∈ lw_all := lw_t7 (List.mem_of_getElem? (i := 137) rfl) rfl
theorem q1654 : (Cond.code yX7_honour cX7_honour 2 (some .int) : Cond) ∈ lw_all := lw_t7 (List.mem_of_getElem? (i := 138) rfl) rfl
theorem q1655 : (Cond.methodLink RL 278 yX7_ranked : Cond) ∈ lw_all := lw_t7 (List.mem_of_getElem? (i := 139) rfl) rfl
theorem q1656 : (Cond.instanceMethod yX7_ranked : Cond) ∈ lw_all := lw_t7 (List.mem_of_getElem? (i := 140) rfl) rfl
theorem q1657 : (Cond.selects RX7 yX7_ranked yX7_ranked : Cond) ∈ lw_all := lw_t7 (List.mem_of_getElem? (i := 141) rfl) rfl
theorem q1658 : (Cond.code yX7_ranked cX7_ranked 5 (some .int) : Cond) ∈ lw_all := lw_t7 (List.mem_of_getElem? (i := 142) rfl) rfl
theorem q1659 : (Cond.methodLink RX7 278 yX7_isAheadOf : Cond) ∈ lw_all := lw_t7 (List.mem_of_getElem? (i := 143) rfl) rfl
theorem q1661 : (Cond.instanceMethod yX7_isAheadOf : Cond) ∈ lw_all := lw_t7 (List.mem_of_getElem? (i := 145) rfl) rfl
theorem q1662 : (Cond.code yX7_isAheadOf cX7_isAheadOf 3 (some .boolean) : Cond) ∈ lw_all := lw_t7 (List.mem_of_getElem? (i := 146) rfl) rfl
theorem q1663 : (Cond.methodLink RL 281 yX7_challenge : Cond) ∈ lw_all := lw_t7 (List.mem_of_getElem? (i := 147) rfl) rfl
theorem q1664 : (Cond.instanceMethod yX7_challenge : Cond) ∈ lw_all := lw_t7 (List.mem_of_getElem? (i := 148) rfl) rfl
theorem q1665 : (Cond.selects RX7 yX7_challenge yX7_challenge : Cond) ∈ lw_all := lw_t7 (List.mem_of_getElem? (i := 149) rfl) rfl
theorem q1666 : (Cond.code yX7_challenge cX7_challenge 3 (some .int) : Cond) ∈ lw_all := lw_t7 (List.mem_of_getElem? (i := 150) rfl) rfl
theorem q1667 : (Cond.methodLink RX7 281 yX7_openCount : Cond) ∈ lw_all := lw_t7 (List.mem_of_getElem? (i := 151) rfl) rfl
theorem q1669 : (Cond.instanceMethod yX7_openCount : Cond) ∈ lw_all := lw_t7 (List.mem_of_getElem? (i := 153) rfl) rfl
theorem q1670 : (Cond.code yX7_openCount cX7_openCount 3 (some .int) : Cond) ∈ lw_all := lw_t7 (List.mem_of_getElem? (i := 154) rfl) rfl
theorem q1671 : (Cond.methodLink RL 284 yX7_give : Cond) ∈ lw_all := lw_t7 (List.mem_of_getElem? (i := 155) rfl) rfl
theorem q1672 : (Cond.instanceMethod yX7_give : Cond) ∈ lw_all := lw_t7 (List.mem_of_getElem? (i := 156) rfl) rfl
theorem q1673 : (Cond.selects RX7 yX7_give yX7_give : Cond) ∈ lw_all := lw_t7 (List.mem_of_getElem? (i := 157) rfl) rfl
theorem q1674 : (Cond.code yX7_give cX7_give 3 (some .char) : Cond) ∈ lw_all := lw_t7 (List.mem_of_getElem? (i := 158) rfl) rfl
theorem q1675 : (Cond.methodLink RX7 284 yX7_hasCopy : Cond) ∈ lw_all := lw_t7 (List.mem_of_getElem? (i := 159) rfl) rfl
theorem q1677 : (Cond.instanceMethod yX7_hasCopy : Cond) ∈ lw_all := lw_t7 (List.mem_of_getElem? (i := 161) rfl) rfl
theorem q1678 : (Cond.code yX7_hasCopy cX7_hasCopy 5 (some .boolean) : Cond) ∈ lw_all := lw_t7 (List.mem_of_getElem? (i := 162) rfl) rfl
theorem q1679 : (Cond.methodLink RX7 287 yX7_closes : Cond) ∈ lw_all := lw_t7 (List.mem_of_getElem? (i := 163) rfl) rfl
theorem q1681 : (Cond.instanceMethod yX7_closes : Cond) ∈ lw_all := lw_t7 (List.mem_of_getElem? (i := 165) rfl) rfl
theorem q1682 : (Cond.code yX7_closes cX7_closes 4 (some .char) : Cond) ∈ lw_all := lw_t7 (List.mem_of_getElem? (i := 166) rfl) rfl
theorem q1683 : (Cond.methodLink RL 287 yX7_answer : Cond) ∈ lw_all := lw_t7 (List.mem_of_getElem? (i := 167) rfl) rfl
theorem q1684 : (Cond.instanceMethod yX7_answer : Cond) ∈ lw_all := lw_t7 (List.mem_of_getElem? (i := 168) rfl) rfl
theorem q1685 : (Cond.selects RX7 yX7_answer yX7_answer : Cond) ∈ lw_all := lw_t7 (List.mem_of_getElem? (i := 169) rfl) rfl
theorem q1686 : (Cond.code yX7_answer cX7_answer 3 (some .char) : Cond) ∈ lw_all := lw_t7 (List.mem_of_getElem? (i := 170) rfl) rfl
theorem q1687 : (Cond.methodLink RX7 290 yX7_isBody : Cond) ∈ lw_all := lw_t7 (List.mem_of_getElem? (i := 171) rfl) rfl
theorem q1689 : (Cond.instanceMethod yX7_isBody : Cond) ∈ lw_all := lw_t7 (List.mem_of_getElem? (i := 173) rfl) rfl
theorem q1690 : (Cond.code yX7_isBody cX7_isBody 8 (some .boolean) : Cond) ∈ lw_all := lw_t7 (List.mem_of_getElem? (i := 174) rfl) rfl
theorem q1691 : (Cond.methodLink RL 290 yX7_open : Cond) ∈ lw_all := lw_t7 (List.mem_of_getElem? (i := 175) rfl) rfl
theorem q1692 : (Cond.instanceMethod yX7_open : Cond) ∈ lw_all := lw_t7 (List.mem_of_getElem? (i := 176) rfl) rfl
theorem q1693 : (Cond.selects RX7 yX7_open yX7_open : Cond) ∈ lw_all := lw_t7 (List.mem_of_getElem? (i := 177) rfl) rfl
theorem q1694 : (Cond.code yX7_open cX7_open 6 (some .int) : Cond) ∈ lw_all := lw_t7 (List.mem_of_getElem? (i := 178) rfl) rfl
theorem q1695 : (Cond.methodLink RL 293 yX7_left : Cond) ∈ lw_all := lw_t7 (List.mem_of_getElem? (i := 179) rfl) rfl
theorem q1696 : (Cond.instanceMethod yX7_left : Cond) ∈ lw_all := lw_t7 (List.mem_of_getElem? (i := 180) rfl) rfl
theorem q1697 : (Cond.selects RX7 yX7_left yX7_left : Cond) ∈ lw_all := lw_t7 (List.mem_of_getElem? (i := 181) rfl) rfl
theorem q1698 : (Cond.code yX7_left cX7_left 2 (some .int) : Cond) ∈ lw_all := lw_t7 (List.mem_of_getElem? (i := 182) rfl) rfl
theorem q1699 : (Cond.methodLink RL 296 yX7_days : Cond) ∈ lw_all := lw_t7 (List.mem_of_getElem? (i := 183) rfl) rfl
theorem q1700 : (Cond.instanceMethod yX7_days : Cond) ∈ lw_all := lw_t7 (List.mem_of_getElem? (i := 184) rfl) rfl
theorem q1701 : (Cond.selects RX7 yX7_days yX7_days : Cond) ∈ lw_all := lw_t7 (List.mem_of_getElem? (i := 185) rfl) rfl
theorem q1702 : (Cond.code yX7_days cX7_days 4 (some .int) : Cond) ∈ lw_all := lw_t7 (List.mem_of_getElem? (i := 186) rfl) rfl
theorem q1703 : (Cond.methodLink RL 301 yX7_checksum : Cond) ∈ lw_all := lw_t7 (List.mem_of_getElem? (i := 187) rfl) rfl
theorem q1704 : (Cond.instanceMethod yX7_checksum : Cond) ∈ lw_all := lw_t7 (List.mem_of_getElem? (i := 188) rfl) rfl
theorem q1705 : (Cond.selects RX7 yX7_checksum yX7_checksum : Cond) ∈ lw_all := lw_t7 (List.mem_of_getElem? (i := 189) rfl) rfl
theorem q1706 : (Cond.code yX7_checksum cX7_checksum 4 (some .long) : Cond) ∈ lw_all := lw_t7 (List.mem_of_getElem? (i := 190) rfl) rfl
theorem q1707 : (Cond.constantLong RX7 293 (7) : Cond) ∈ lw_all := lw_t7 (List.mem_of_getElem? (i := 191) rfl) rfl
theorem q1708 : (Cond.methodLink RL 305 yX7_standingShare : Cond) ∈ lw_all := lw_t7 (List.mem_of_getElem? (i := 192) rfl) rfl
theorem q1709 : (Cond.instanceMethod yX7_standingShare : Cond) ∈ lw_all := lw_t7 (List.mem_of_getElem? (i := 193) rfl) rfl
theorem q1710 : (Cond.selects RX7 yX7_standingShare yX7_standingShare : Cond) ∈ lw_all := lw_t7 (List.mem_of_getElem? (i := 194) rfl) rfl
theorem q1711 : (Cond.code yX7_standingShare cX7_standingShare 3 (some .float) : Cond) ∈ lw_all := lw_t7 (List.mem_of_getElem? (i := 195) rfl) rfl
theorem q1712 : (Cond.methodLink RL 308 yX7_meanSteps : Cond) ∈ lw_all := lw_t7 (List.mem_of_getElem? (i := 196) rfl) rfl
theorem q1713 : (Cond.instanceMethod yX7_meanSteps : Cond) ∈ lw_all := lw_t7 (List.mem_of_getElem? (i := 197) rfl) rfl
theorem q1714 : (Cond.selects RX7 yX7_meanSteps yX7_meanSteps : Cond) ∈ lw_all := lw_t7 (List.mem_of_getElem? (i := 198) rfl) rfl
theorem q1715 : (Cond.code yX7_meanSteps cX7_meanSteps 6 (some .double) : Cond) ∈ lw_all := lw_t7 (List.mem_of_getElem? (i := 199) rfl) rfl
theorem q1716 : (Cond.methodLink RL 313 yX7_isSound : Cond) ∈ lw_all := lw_t7 (List.mem_of_getElem? (i := 200) rfl) rfl
theorem q1717 : (Cond.instanceMethod yX7_isSound : Cond) ∈ lw_all := lw_t7 (List.mem_of_getElem? (i := 201) rfl) rfl
theorem q1718 : (Cond.selects RX7 yX7_isSound yX7_isSound : Cond) ∈ lw_all := lw_t7 (List.mem_of_getElem? (i := 202) rfl) rfl
theorem q1719 : (Cond.code yX7_isSound cX7_isSound 1 (some .boolean) : Cond) ∈ lw_all := lw_t7 (List.mem_of_getElem? (i := 203) rfl) rfl
theorem q1720 : (Cond.arrayClass .double : Cond) ∈ lw_all := lw_t7 (List.mem_of_getElem? (i := 204) rfl) rfl