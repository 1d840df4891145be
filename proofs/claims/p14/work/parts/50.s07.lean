theorem s_X7_counts {A : Nat → Nat → Nat → Prop} {B : SS} (M : SS) (hM : IV A B M) (p0 : Int32) (ip0 : (0 : Int32) ≤ p0 ∧ p0 ≤ (39 : Int32)) : ok (f_X7_counts M p0) (fun r => (0 : Int32) ≤ r ∧ r ≤ (1 : Int32)) := by
  unfold f_X7_counts
  refine ok_gd ?_ (fun g1 => ?_)
  · exact vp_of (by decide) (by grind) (show p0 < (40 : Int32) by grind)
  have g1 := vp_to (by decide) g1
  have g1 : (0 : Int32) ≤ p0 ∧ p0 < (40 : Int32) := g1
  refine ok_ite (fun q2 => ?_) (fun q2 => ?_)
  · have pf3 : (0 : Int32) ≤ (1 : Int32) ∧ (1 : Int32) ≤ (1 : Int32) := by
      exact ⟨by grind, by grind⟩
    exact ok_some pf3
  · refine ok_gd ?_ (fun g4 => ?_)
    · have c5 : (0 : Int32) ≤ (M.1 42 0 (p0).toNatClampNeg) ∧ (M.1 42 0 (p0).toNatClampNeg) ≤ (65535 : Int32) := hM.at1 42 0 ((p0).toNatClampNeg)
      exact vp_of (by decide) (by grind) (show p0 < (40 : Int32) by grind)
    have g4 := vp_to (by decide) g4
    have g4 : (0 : Int32) ≤ p0 ∧ p0 < (40 : Int32) := g4
    refine ok_ite (fun q6 => ?_) (fun q6 => ?_)
    · have pf7 : (0 : Int32) ≤ (1 : Int32) ∧ (1 : Int32) ≤ (1 : Int32) := by
        exact ⟨by grind, by grind⟩
      exact ok_some pf7
    · refine ok_gd ?_ (fun g8 => ?_)
      · have c9 : (0 : Int32) ≤ (M.1 42 0 (p0).toNatClampNeg) ∧ (M.1 42 0 (p0).toNatClampNeg) ≤ (65535 : Int32) := hM.at1 42 0 ((p0).toNatClampNeg)
        exact vp_of (by decide) (by grind) (show p0 < (40 : Int32) by grind)
      have g8 := vp_to (by decide) g8
      have g8 : (0 : Int32) ≤ p0 ∧ p0 < (40 : Int32) := g8
      refine ok_ite (fun q10 => ?_) (fun q10 => ?_)
      · have pf11 : (0 : Int32) ≤ (1 : Int32) ∧ (1 : Int32) ≤ (1 : Int32) := by
          exact ⟨by grind, by grind⟩
        exact ok_some pf11
      · have pf12 : (0 : Int32) ≤ (0 : Int32) ∧ (0 : Int32) ≤ (1 : Int32) := by
          exact ⟨by grind, by grind⟩
        exact ok_some pf12
theorem s_X7_isGreater {A : Nat → Nat → Nat → Prop} {B : SS} (M : SS) (hM : IV A B M) (p0 : Int32) (ip0 : (0 : Int32) ≤ p0 ∧ p0 ≤ (39 : Int32)) (p1 : Int32) (ip1 : (0 : Int32) ≤ p1 ∧ p1 ≤ (39 : Int32)) : ok (f_X7_isGreater M p0 p1) (fun r => (0 : Int32) ≤ r ∧ r ≤ (1 : Int32)) := by
  unfold f_X7_isGreater
  have pf1 : (0 : Int32) ≤ p0 ∧ p0 ≤ (39 : Int32) := by
    exact ⟨by grind, by grind⟩
  refine ok_b0 (s_X7_weightOf M hM p0 pf1) (fun v1 w2 => ?_)
  have w3 : ((0 : Int32) ≤ v1 ∧ v1 ≤ (60 : Int32)) := w2
  refine ok_ite (fun q4 => ?_) (fun q4 => ?_)
  · unfold f_X7_isGreater_J17
    have pf5 : (0 : Int32) ≤ p1 ∧ p1 ≤ (39 : Int32) := by
      exact ⟨by grind, by grind⟩
    refine ok_b0 (s_X7_weightOf M hM p1 pf5) (fun v5 w6 => ?_)
    have w7 : ((0 : Int32) ≤ v5 ∧ v5 ≤ (60 : Int32)) := w6
    refine ok_ite (fun q8 => ?_) (fun q8 => ?_)
    · unfold f_X7_isGreater_J35
      have pf9 : (0 : Int32) ≤ p0 ∧ p0 ≤ (39 : Int32) := by
        exact ⟨by grind, by grind⟩
      refine ok_b0 (s_X7_weightOf M hM p0 pf9) (fun v9 w10 => ?_)
      have w11 : ((0 : Int32) ≤ v9 ∧ v9 ≤ (60 : Int32)) := w10
      refine ok_ite (fun q12 => ?_) (fun q12 => ?_)
      · unfold f_X7_isGreater_J54
        have pf13 : (0 : Int32) ≤ p1 ∧ p1 ≤ (39 : Int32) := by
          exact ⟨by grind, by grind⟩
        refine ok_b0 (s_X7_weightOf M hM p1 pf13) (fun v13 w14 => ?_)
        have w15 : ((0 : Int32) ≤ v13 ∧ v13 ≤ (60 : Int32)) := w14
        refine ok_ite (fun q16 => ?_) (fun q16 => ?_)
        · unfold f_X7_isGreater_J73
          refine ok_ite (fun q17 => ?_) (fun q17 => ?_)
          · have pf18 : (0 : Int32) ≤ (0 : Int32) ∧ (0 : Int32) ≤ (1 : Int32) := by
              exact ⟨by grind, by grind⟩
            exact ok_some pf18
          · have pf19 : (0 : Int32) ≤ (1 : Int32) ∧ (1 : Int32) ≤ (1 : Int32) := by
              exact ⟨by grind, by grind⟩
            exact ok_some pf19
        · have pf20 : (0 : Int32) ≤ p1 ∧ p1 ≤ (39 : Int32) := by
            exact ⟨by grind, by grind⟩
          refine ok_b0 (s_X7_weighed M hM p1 pf20) (fun v19 w21 => ?_)
          unfold f_X7_isGreater_J73
          refine ok_ite (fun q22 => ?_) (fun q22 => ?_)
          · have pf23 : (0 : Int32) ≤ (0 : Int32) ∧ (0 : Int32) ≤ (1 : Int32) := by
              exact ⟨by grind, by grind⟩
            exact ok_some pf23
          · have pf24 : (0 : Int32) ≤ (1 : Int32) ∧ (1 : Int32) ≤ (1 : Int32) := by
              exact ⟨by grind, by grind⟩
            exact ok_some pf24
      · have pf25 : (0 : Int32) ≤ p0 ∧ p0 ≤ (39 : Int32) := by
          exact ⟨by grind, by grind⟩
        refine ok_b0 (s_X7_weighed M hM p0 pf25) (fun v22 w26 => ?_)
        unfold f_X7_isGreater_J54
        have pf27 : (0 : Int32) ≤ p1 ∧ p1 ≤ (39 : Int32) := by
          exact ⟨by grind, by grind⟩
        refine ok_b0 (s_X7_weightOf M hM p1 pf27) (fun v13 w28 => ?_)
        have w29 : ((0 : Int32) ≤ v13 ∧ v13 ≤ (60 : Int32)) := w28
        refine ok_ite (fun q30 => ?_) (fun q30 => ?_)
        · unfold f_X7_isGreater_J73
          refine ok_ite (fun q31 => ?_) (fun q31 => ?_)
          · have pf32 : (0 : Int32) ≤ (0 : Int32) ∧ (0 : Int32) ≤ (1 : Int32) := by
              exact ⟨by grind, by grind⟩
            exact ok_some pf32
          · have pf33 : (0 : Int32) ≤ (1 : Int32) ∧ (1 : Int32) ≤ (1 : Int32) := by
              exact ⟨by grind, by grind⟩
            exact ok_some pf33
        · have pf34 : (0 : Int32) ≤ p1 ∧ p1 ≤ (39 : Int32) := by
            exact ⟨by grind, by grind⟩
          refine ok_b0 (s_X7_weighed M hM p1 pf34) (fun v19 w35 => ?_)
          unfold f_X7_isGreater_J73
          refine ok_ite (fun q36 => ?_) (fun q36 => ?_)
          · have pf37 : (0 : Int32) ≤ (0 : Int32) ∧ (0 : Int32) ≤ (1 : Int32) := by
              exact ⟨by grind, by grind⟩
            exact ok_some pf37
          · have pf38 : (0 : Int32) ≤ (1 : Int32) ∧ (1 : Int32) ≤ (1 : Int32) := by
              exact ⟨by grind, by grind⟩
            exact ok_some pf38
    · have pf39 : (0 : Int32) ≤ p1 ∧ p1 ≤ (39 : Int32) := by
        exact ⟨by grind, by grind⟩
      refine ok_b0 (s_X7_weightOf M hM p1 pf39) (fun v25 w40 => ?_)
      have w41 : ((0 : Int32) ≤ v25 ∧ v25 ≤ (60 : Int32)) := w40
      unfold f_X7_isGreater_J35
      have pf42 : (0 : Int32) ≤ p0 ∧ p0 ≤ (39 : Int32) := by
        exact ⟨by grind, by grind⟩
      refine ok_b0 (s_X7_weightOf M hM p0 pf42) (fun v9 w43 => ?_)
      have w44 : ((0 : Int32) ≤ v9 ∧ v9 ≤ (60 : Int32)) := w43
      refine ok_ite (fun q45 => ?_) (fun q45 => ?_)
      · unfold f_X7_isGreater_J54
        have pf46 : (0 : Int32) ≤ p1 ∧ p1 ≤ (39 : Int32) := by
          exact ⟨by grind, by grind⟩
        refine ok_b0 (s_X7_weightOf M hM p1 pf46) (fun v13 w47 => ?_)
        have w48 : ((0 : Int32) ≤ v13 ∧ v13 ≤ (60 : Int32)) := w47
        refine ok_ite (fun q49 => ?_) (fun q49 => ?_)
        · unfold f_X7_isGreater_J73
          refine ok_ite (fun q50 => ?_) (fun q50 => ?_)
          · have pf51 : (0 : Int32) ≤ (0 : Int32) ∧ (0 : Int32) ≤ (1 : Int32) := by
              exact ⟨by grind, by grind⟩
            exact ok_some pf51
          · have pf52 : (0 : Int32) ≤ (1 : Int32) ∧ (1 : Int32) ≤ (1 : Int32) := by
              exact ⟨by grind, by grind⟩
            exact ok_some pf52
        · have pf53 : (0 : Int32) ≤ p1 ∧ p1 ≤ (39 : Int32) := by
            exact ⟨by grind, by grind⟩
          refine ok_b0 (s_X7_weighed M hM p1 pf53) (fun v19 w54 => ?_)
          unfold f_X7_isGreater_J73
          refine ok_ite (fun q55 => ?_) (fun q55 => ?_)
          · have pf56 : (0 : Int32) ≤ (0 : Int32) ∧ (0 : Int32) ≤ (1 : Int32) := by
              exact ⟨by grind, by grind⟩
            exact ok_some pf56
          · have pf57 : (0 : Int32) ≤ (1 : Int32) ∧ (1 : Int32) ≤ (1 : Int32) := by
              exact ⟨by grind, by grind⟩
            exact ok_some pf57
      · have pf58 : (0 : Int32) ≤ p0 ∧ p0 ≤ (39 : Int32) := by
          exact ⟨by grind, by grind⟩
        refine ok_b0 (s_X7_weighed M hM p0 pf58) (fun v22 w59 => ?_)
        unfold f_X7_isGreater_J54
        have pf60 : (0 : Int32) ≤ p1 ∧ p1 ≤ (39 : Int32) := by
          exact ⟨by grind, by grind⟩
        refine ok_b0 (s_X7_weightOf M hM p1 pf60) (fun v13 w61 => ?_)
        have w62 : ((0 : Int32) ≤ v13 ∧ v13 ≤ (60 : Int32)) := w61
        refine ok_ite (fun q63 => ?_) (fun q63 => ?_)
        · unfold f_X7_isGreater_J73
          refine ok_ite (fun q64 => ?_) (fun q64 => ?_)
          · have pf65 : (0 : Int32) ≤ (0 : Int32) ∧ (0 : Int32) ≤ (1 : Int32) := by
              exact ⟨by grind, by grind⟩
            exact ok_some pf65
          · have pf66 : (0 : Int32) ≤ (1 : Int32) ∧ (1 : Int32) ≤ (1 : Int32) := by
              exact ⟨by grind, by grind⟩
            exact ok_some pf66
        · have pf67 : (0 : Int32) ≤ p1 ∧ p1 ≤ (39 : Int32) := by
            exact ⟨by grind, by grind⟩
          refine ok_b0 (s_X7_weighed M hM p1 pf67) (fun v19 w68 => ?_)
          unfold f_X7_isGreater_J73
          refine ok_ite (fun q69 => ?_) (fun q69 => ?_)
          · have pf70 : (0 : Int32) ≤ (0 : Int32) ∧ (0 : Int32) ≤ (1 : Int32) := by
              exact ⟨by grind, by grind⟩
            exact ok_some pf70
          · have pf71 : (0 : Int32) ≤ (1 : Int32) ∧ (1 : Int32) ≤ (1 : Int32) := by
              exact ⟨by grind, by grind⟩
            exact ok_some pf71
  · have pf72 : (0 : Int32) ≤ p0 ∧ p0 ≤ (39 : Int32) := by
      exact ⟨by grind, by grind⟩
    refine ok_b0 (s_X7_weightOf M hM p0 pf72) (fun v28 w73 => ?_)
    have w74 : ((0 : Int32) ≤ v28 ∧ v28 ≤ (60 : Int32)) := w73
    unfold f_X7_isGreater_J17
    have pf75 : (0 : Int32) ≤ p1 ∧ p1 ≤ (39 : Int32) := by
      exact ⟨by grind, by grind⟩
    refine ok_b0 (s_X7_weightOf M hM p1 pf75) (fun v5 w76 => ?_)
    have w77 : ((0 : Int32) ≤ v5 ∧ v5 ≤ (60 : Int32)) := w76
    refine ok_ite (fun q78 => ?_) (fun q78 => ?_)
    · unfold f_X7_isGreater_J35
      have pf79 : (0 : Int32) ≤ p0 ∧ p0 ≤ (39 : Int32) := by
        exact ⟨by grind, by grind⟩
      refine ok_b0 (s_X7_weightOf M hM p0 pf79) (fun v9 w80 => ?_)
      have w81 : ((0 : Int32) ≤ v9 ∧ v9 ≤ (60 : Int32)) := w80
      refine ok_ite (fun q82 => ?_) (fun q82 => ?_)
      · unfold f_X7_isGreater_J54
        have pf83 : (0 : Int32) ≤ p1 ∧ p1 ≤ (39 : Int32) := by
          exact ⟨by grind, by grind⟩
        refine ok_b0 (s_X7_weightOf M hM p1 pf83) (fun v13 w84 => ?_)
        have w85 : ((0 : Int32) ≤ v13 ∧ v13 ≤ (60 : Int32)) := w84
        refine ok_ite (fun q86 => ?_) (fun q86 => ?_)
        · unfold f_X7_isGreater_J73
          refine ok_ite (fun q87 => ?_) (fun q87 => ?_)
          · have pf88 : (0 : Int32) ≤ (0 : Int32) ∧ (0 : Int32) ≤ (1 : Int32) := by
              exact ⟨by grind, by grind⟩
            exact ok_some pf88
          · have pf89 : (0 : Int32) ≤ (1 : Int32) ∧ (1 : Int32) ≤ (1 : Int32) := by
              exact ⟨by grind, by grind⟩
            exact ok_some pf89
        · have pf90 : (0 : Int32) ≤ p1 ∧ p1 ≤ (39 : Int32) := by
            exact ⟨by grind, by grind⟩
          refine ok_b0 (s_X7_weighed M hM p1 pf90) (fun v19 w91 => ?_)
          unfold f_X7_isGreater_J73
          refine ok_ite (fun q92 => ?_) (fun q92 => ?_)
          · have pf93 : (0 : Int32) ≤ (0 : Int32) ∧ (0 : Int32) ≤ (1 : Int32) := by
              exact ⟨by grind, by grind⟩
            exact ok_some pf93
          · have pf94 : (0 : Int32) ≤ (1 : Int32) ∧ (1 : Int32) ≤ (1 : Int32) := by
              exact ⟨by grind, by grind⟩
            exact ok_some pf94
      · have pf95 : (0 : Int32) ≤ p0 ∧ p0 ≤ (39 : Int32) := by
          exact ⟨by grind, by grind⟩
        refine ok_b0 (s_X7_weighed M hM p0 pf95) (fun v22 w96 => ?_)
        unfold f_X7_isGreater_J54
        have pf97 : (0 : Int32) ≤ p1 ∧ p1 ≤ (39 : Int32) := by
          exact ⟨by grind, by grind⟩
        refine ok_b0 (s_X7_weightOf M hM p1 pf97) (fun v13 w98 => ?_)
        have w99 : ((0 : Int32) ≤ v13 ∧ v13 ≤ (60 : Int32)) := w98
        refine ok_ite (fun q100 => ?_) (fun q100 => ?_)
        · unfold f_X7_isGreater_J73
          refine ok_ite (fun q101 => ?_) (fun q101 => ?_)
          · have pf102 : (0 : Int32) ≤ (0 : Int32) ∧ (0 : Int32) ≤ (1 : Int32) := by
              exact ⟨by grind, by grind⟩
            exact ok_some pf102
          · have pf103 : (0 : Int32) ≤ (1 : Int32) ∧ (1 : Int32) ≤ (1 : Int32) := by
              exact ⟨by grind, by grind⟩
            exact ok_some pf103
        · have pf104 : (0 : Int32) ≤ p1 ∧ p1 ≤ (39 : Int32) := by
            exact ⟨by grind, by grind⟩
          refine ok_b0 (s_X7_weighed M hM p1 pf104) (fun v19 w105 => ?_)
          unfold f_X7_isGreater_J73
          refine ok_ite (fun q106 => ?_) (fun q106 => ?_)
          · have pf107 : (0 : Int32) ≤ (0 : Int32) ∧ (0 : Int32) ≤ (1 : Int32) := by
              exact ⟨by grind, by grind⟩
            exact ok_some pf107
          · have pf108 : (0 : Int32) ≤ (1 : Int32) ∧ (1 : Int32) ≤ (1 : Int32) := by
              exact ⟨by grind, by grind⟩
            exact ok_some pf108
    · have pf109 : (0 : Int32) ≤ p1 ∧ p1 ≤ (39 : Int32) := by
        exact ⟨by grind, by grind⟩
      refine ok_b0 (s_X7_weightOf M hM p1 pf109) (fun v25 w110 => ?_)
      have w111 : ((0 : Int32) ≤ v25 ∧ v25 ≤ (60 : Int32)) := w110
      unfold f_X7_isGreater_J35
      have pf112 : (0 : Int32) ≤ p0 ∧ p0 ≤ (39 : Int32) := by
        exact ⟨by grind, by grind⟩
      refine ok_b0 (s_X7_weightOf M hM p0 pf112) (fun v9 w113 => ?_)
      have w114 : ((0 : Int32) ≤ v9 ∧ v9 ≤ (60 : Int32)) := w113
      refine ok_ite (fun q115 => ?_) (fun q115 => ?_)
      · unfold f_X7_isGreater_J54
        have pf116 : (0 : Int32) ≤ p1 ∧ p1 ≤ (39 : Int32) := by
          exact ⟨by grind, by grind⟩
        refine ok_b0 (s_X7_weightOf M hM p1 pf116) (fun v13 w117 => ?_)
        have w118 : ((0 : Int32) ≤ v13 ∧ v13 ≤ (60 : Int32)) := w117
        refine ok_ite (fun q119 => ?_) (fun q119 => ?_)
        · unfold f_X7_isGreater_J73
          refine ok_ite (fun q120 => ?_) (fun q120 => ?_)
          · have pf121 : (0 : Int32) ≤ (0 : Int32) ∧ (0 : Int32) ≤ (1 : Int32) := by
              exact ⟨by grind, by grind⟩
            exact ok_some pf121
          · have pf122 : (0 : Int32) ≤ (1 : Int32) ∧ (1 : Int32) ≤ (1 : Int32) := by
              exact ⟨by grind, by grind⟩
            exact ok_some pf122
        · have pf123 : (0 : Int32) ≤ p1 ∧ p1 ≤ (39 : Int32) := by
            exact ⟨by grind, by grind⟩
          refine ok_b0 (s_X7_weighed M hM p1 pf123) (fun v19 w124 => ?_)
          unfold f_X7_isGreater_J73
          refine ok_ite (fun q125 => ?_) (fun q125 => ?_)
          · have pf126 : (0 : Int32) ≤ (0 : Int32) ∧ (0 : Int32) ≤ (1 : Int32) := by
              exact ⟨by grind, by grind⟩
            exact ok_some pf126
          · have pf127 : (0 : Int32) ≤ (1 : Int32) ∧ (1 : Int32) ≤ (1 : Int32) := by
              exact ⟨by grind, by grind⟩
            exact ok_some pf127
      · have pf128 : (0 : Int32) ≤ p0 ∧ p0 ≤ (39 : Int32) := by
          exact ⟨by grind, by grind⟩
        refine ok_b0 (s_X7_weighed M hM p0 pf128) (fun v22 w129 => ?_)
        unfold f_X7_isGreater_J54
        have pf130 : (0 : Int32) ≤ p1 ∧ p1 ≤ (39 : Int32) := by
          exact ⟨by grind, by grind⟩
        refine ok_b0 (s_X7_weightOf M hM p1 pf130) (fun v13 w131 => ?_)
        have w132 : ((0 : Int32) ≤ v13 ∧ v13 ≤ (60 : Int32)) := w131
        refine ok_ite (fun q133 => ?_) (fun q133 => ?_)
        · unfold f_X7_isGreater_J73
          refine ok_ite (fun q134 => ?_) (fun q134 => ?_)
          · have pf135 : (0 : Int32) ≤ (0 : Int32) ∧ (0 : Int32) ≤ (1 : Int32) := by
              exact ⟨by grind, by grind⟩
            exact ok_some pf135
          · have pf136 : (0 : Int32) ≤ (1 : Int32) ∧ (1 : Int32) ≤ (1 : Int32) := by
              exact ⟨by grind, by grind⟩
            exact ok_some pf136
        · have pf137 : (0 : Int32) ≤ p1 ∧ p1 ≤ (39 : Int32) := by
            exact ⟨by grind, by grind⟩
          refine ok_b0 (s_X7_weighed M hM p1 pf137) (fun v19 w138 => ?_)
          unfold f_X7_isGreater_J73
          refine ok_ite (fun q139 => ?_) (fun q139 => ?_)
          · have pf140 : (0 : Int32) ≤ (0 : Int32) ∧ (0 : Int32) ≤ (1 : Int32) := by
              exact ⟨by grind, by grind⟩
            exact ok_some pf140
          · have pf141 : (0 : Int32) ≤ (1 : Int32) ∧ (1 : Int32) ≤ (1 : Int32) := by
              exact ⟨by grind, by grind⟩
            exact ok_some pf141
theorem s_X7_bestOf_J50 {A : Nat → Nat → Nat → Prop} {B : SS} (v3 : Int32) (iv3 : (0 : Int32) ≤ v3 ∧ v3 ≤ (39 : Int32)) (v4 : Int32) (iv4 : ((-1) : Int32) ≤ v4 ∧ v4 ≤ (39 : Int32)) (M : SS) (hM : IV A B M) (v7 : Int32) (iv7 : (0 : Int32) ≤ v7 ∧ v7 ≤ (1 : Int32)) {n : Nat} (rc : Int32 → Int32 → (Int32 → Option (Int32)) → Option (Int32)) (hrc : ∀ (v3 : Int32) (v4 : Int32) (k1 : (Int32 → Option (Int32))), (FU v3 40 n) → ((0 : Int32) ≤ v3 ∧ v3 ≤ (40 : Int32)) → (((-1) : Int32) ≤ v4 ∧ v4 ≤ (39 : Int32)) → (∀ (k_0 : Int32), (((-1) : Int32) ≤ k_0 ∧ k_0 ≤ (39 : Int32)) → ok (k1 k_0) (fun r => ((-1) : Int32) ≤ r ∧ r ≤ (39 : Int32))) → ok (rc v3 v4 k1) (fun r => ((-1) : Int32) ≤ r ∧ r ≤ (39 : Int32))) (k1 : Int32 → Option (Int32)) (hk : ∀ (k_0 : Int32), (((-1) : Int32) ≤ k_0 ∧ k_0 ≤ (39 : Int32)) → ok (k1 k_0) (fun r => ((-1) : Int32) ≤ r ∧ r ≤ (39 : Int32))) (hF : FU v3 40 (n + 1)) : ok (f_X7_bestOf_J50 rc k1 v3 v4 M v7) (fun r => ((-1) : Int32) ≤ r ∧ r ≤ (39 : Int32)) := by
  unfold f_X7_bestOf_J50
  refine ok_ite (fun q1 => ?_) (fun q1 => ?_)
  · have pf2 : FU (v3 + (1 : Int32)) 40 n := by
      exact FU.step hF (by grind)
    have pf3 : (0 : Int32) ≤ (v3 + (1 : Int32)) ∧ (v3 + (1 : Int32)) ≤ (40 : Int32) := by
      exact ⟨by grind, by grind⟩
    have pf4 : ((-1) : Int32) ≤ v4 ∧ v4 ≤ (39 : Int32) := by
      exact ⟨by grind, by grind⟩
    exact hrc (v3 + (1 : Int32)) v4 k1 pf2 pf3 pf4 hk
  · refine ok_ite (fun q5 => ?_) (fun q5 => ?_)
    · have pf6 : FU (v3 + (1 : Int32)) 40 n := by
        exact FU.step hF (by grind)
      have pf7 : (0 : Int32) ≤ (v3 + (1 : Int32)) ∧ (v3 + (1 : Int32)) ≤ (40 : Int32) := by
        exact ⟨by grind, by grind⟩
      have pf8 : ((-1) : Int32) ≤ v3 ∧ v3 ≤ (39 : Int32) := by
        exact ⟨by grind, by grind⟩
      exact hrc (v3 + (1 : Int32)) v3 k1 pf6 pf7 pf8 hk
    · have pf9 : (0 : Int32) ≤ v3 ∧ v3 ≤ (39 : Int32) := by
        exact ⟨by grind, by grind⟩
      have pf10 : (0 : Int32) ≤ v4 ∧ v4 ≤ (39 : Int32) := by
        exact ⟨by grind, by grind⟩
      refine ok_b0 (s_X7_isGreater M hM v3 pf9 v4 pf10) (fun v11 w11 => ?_)
      have w12 : (0 : Int32) ≤ v11 ∧ v11 ≤ (1 : Int32) := w11
      refine ok_ite (fun q13 => ?_) (fun q13 => ?_)
      · have pf14 : FU (v3 + (1 : Int32)) 40 n := by
          exact FU.step hF (by grind)
        have pf15 : (0 : Int32) ≤ (v3 + (1 : Int32)) ∧ (v3 + (1 : Int32)) ≤ (40 : Int32) := by
          exact ⟨by grind, by grind⟩
        have pf16 : ((-1) : Int32) ≤ v4 ∧ v4 ≤ (39 : Int32) := by
          exact ⟨by grind, by grind⟩
        exact hrc (v3 + (1 : Int32)) v4 k1 pf14 pf15 pf16 hk
      · have pf17 : FU (v3 + (1 : Int32)) 40 n := by
          exact FU.step hF (by grind)
        have pf18 : (0 : Int32) ≤ (v3 + (1 : Int32)) ∧ (v3 + (1 : Int32)) ≤ (40 : Int32) := by
          exact ⟨by grind, by grind⟩
        have pf19 : ((-1) : Int32) ≤ v3 ∧ v3 ≤ (39 : Int32) := by
          exact ⟨by grind, by grind⟩
        exact hrc (v3 + (1 : Int32)) v3 k1 pf17 pf18 pf19 hk
theorem s_X7_bestOf_J49 {A : Nat → Nat → Nat → Prop} {B : SS} (v3 : Int32) (iv3 : (0 : Int32) ≤ v3 ∧ v3 ≤ (39 : Int32)) (v4 : Int32) (iv4 : ((-1) : Int32) ≤ v4 ∧ v4 ≤ (39 : Int32)) (M : SS) (hM : IV A B M) {n : Nat} (rc : Int32 → Int32 → (Int32 → Option (Int32)) → Option (Int32)) (hrc : ∀ (v3 : Int32) (v4 : Int32) (k1 : (Int32 → Option (Int32))), (FU v3 40 n) → ((0 : Int32) ≤ v3 ∧ v3 ≤ (40 : Int32)) → (((-1) : Int32) ≤ v4 ∧ v4 ≤ (39 : Int32)) → (∀ (k_0 : Int32), (((-1) : Int32) ≤ k_0 ∧ k_0 ≤ (39 : Int32)) → ok (k1 k_0) (fun r => ((-1) : Int32) ≤ r ∧ r ≤ (39 : Int32))) → ok (rc v3 v4 k1) (fun r => ((-1) : Int32) ≤ r ∧ r ≤ (39 : Int32))) (k1 : Int32 → Option (Int32)) (hk : ∀ (k_0 : Int32), (((-1) : Int32) ≤ k_0 ∧ k_0 ≤ (39 : Int32)) → ok (k1 k_0) (fun r => ((-1) : Int32) ≤ r ∧ r ≤ (39 : Int32))) (hF : FU v3 40 (n + 1)) : ok (f_X7_bestOf_J49 rc k1 v3 v4 M) (fun r => ((-1) : Int32) ≤ r ∧ r ≤ (39 : Int32)) := by
  unfold f_X7_bestOf_J49
  have pf1 : (0 : Int32) ≤ v3 ∧ v3 ≤ (39 : Int32) := by
    exact ⟨by grind, by grind⟩
  have pf2 : ((-1) : Int32) ≤ v4 ∧ v4 ≤ (39 : Int32) := by
    exact ⟨by grind, by grind⟩
  exact s_X7_bestOf_J50 v3 pf1 v4 pf2 M hM (0 : Int32) (show (0 : Int32) ≤ (0 : Int32) ∧ (0 : Int32) ≤ (1 : Int32) from ⟨by decide, by decide⟩) rc hrc k1 hk hF
theorem s_X7_bestOf_L5 {A : Nat → Nat → Nat → Prop} {B : SS} (M : SS) (hM : IV A B M) (p0 : Int32) (p1 : Int32) (ip1 : (0 : Int32) ≤ p1 ∧ p1 ≤ (7 : Int32)) : ∀ (n : Nat), ∀ (v3 : Int32) (v4 : Int32) (k1 : (Int32 → Option (Int32))), (FU v3 40 n) → ((0 : Int32) ≤ v3 ∧ v3 ≤ (40 : Int32)) → (((-1) : Int32) ≤ v4 ∧ v4 ≤ (39 : Int32)) → (∀ (k_0 : Int32), (((-1) : Int32) ≤ k_0 ∧ k_0 ≤ (39 : Int32)) → ok (k1 k_0) (fun r => ((-1) : Int32) ≤ r ∧ r ≤ (39 : Int32))) → ok (f_X7_bestOf_L5 M p0 p1 n v3 v4 k1) (fun r => ((-1) : Int32) ≤ r ∧ r ≤ (39 : Int32)) := by
  intro n
  induction n with
  | zero =>
    intro v3 v4 k1 hF iv3 iv4 hk
    exact (FU.stop hF (show v3 ≤ (40 : Int32) by grind)).elim
  | succ n ih =>
    intro v3 v4 k1 hF iv3 iv4 hk
    rw [f_X7_bestOf_L5]
    refine ok_ite (fun q1 => ?_) (fun q1 => ?_)
    · have pf2 : ((-1) : Int32) ≤ v4 ∧ v4 ≤ (39 : Int32) := by
        exact ⟨by grind, by grind⟩
      exact hk v4 pf2
    · refine ok_gd ?_ (fun g3 => ?_)
      · have c4 : (0 : Int32) ≤ (M.1 26 0 5) ∧ (M.1 26 0 5) ≤ (40 : Int32) := hM.at1 26 0 5
        exact vp_of (by decide) (by grind) (show v3 < (40 : Int32) by grind)
      have g3 := vp_to (by decide) g3
      have g3 : (0 : Int32) ≤ v3 ∧ v3 < (40 : Int32) := g3
      refine ok_ite (fun q5 => ?_) (fun q5 => ?_)
      · refine ok_gd ?_ (fun g6 => ?_)
        · have c7 : (0 : Int32) ≤ (M.1 26 0 5) ∧ (M.1 26 0 5) ≤ (40 : Int32) := hM.at1 26 0 5
          have c8 : (0 : Int32) ≤ (M.1 39 0 (v3).toNatClampNeg) ∧ (M.1 39 0 (v3).toNatClampNeg) ≤ (9 : Int32) := hM.at1 39 0 ((v3).toNatClampNeg)
          exact vp_of (by decide) (by grind) (show v3 < (40 : Int32) by grind)
        have g6 := vp_to (by decide) g6
        have g6 : (0 : Int32) ≤ v3 ∧ v3 < (40 : Int32) := g6
        refine ok_ite (fun q9 => ?_) (fun q9 => ?_)
        · have pf10 : (0 : Int32) ≤ v3 ∧ v3 ≤ (39 : Int32) := by
            have c11 : (0 : Int32) ≤ (M.1 26 0 5) ∧ (M.1 26 0 5) ≤ (40 : Int32) := hM.at1 26 0 5
            have c12 : (0 : Int32) ≤ (M.1 39 0 (v3).toNatClampNeg) ∧ (M.1 39 0 (v3).toNatClampNeg) ≤ (9 : Int32) := hM.at1 39 0 ((v3).toNatClampNeg)
            have c13 : (0 : Int32) ≤ (M.1 40 0 (v3).toNatClampNeg) ∧ (M.1 40 0 (v3).toNatClampNeg) ≤ (7 : Int32) := hM.at1 40 0 ((v3).toNatClampNeg)
            exact ⟨by grind, by grind⟩
          refine ok_b0 (s_X7_counts M hM v3 pf10) (fun v18 w14 => ?_)
          have w15 : (0 : Int32) ≤ v18 ∧ v18 ≤ (1 : Int32) := w14
          refine ok_ite (fun q16 => ?_) (fun q16 => ?_)
          · have pf17 : (0 : Int32) ≤ v3 ∧ v3 ≤ (39 : Int32) := by
              have c18 : (0 : Int32) ≤ (M.1 26 0 5) ∧ (M.1 26 0 5) ≤ (40 : Int32) := hM.at1 26 0 5
              have c19 : (0 : Int32) ≤ (M.1 39 0 (v3).toNatClampNeg) ∧ (M.1 39 0 (v3).toNatClampNeg) ≤ (9 : Int32) := hM.at1 39 0 ((v3).toNatClampNeg)
              have c20 : (0 : Int32) ≤ (M.1 40 0 (v3).toNatClampNeg) ∧ (M.1 40 0 (v3).toNatClampNeg) ≤ (7 : Int32) := hM.at1 40 0 ((v3).toNatClampNeg)
              exact ⟨by grind, by grind⟩
            have pf21 : ((-1) : Int32) ≤ v4 ∧ v4 ≤ (39 : Int32) := by
              exact ⟨by grind, by grind⟩
            exact s_X7_bestOf_J49 v3 pf17 v4 pf21 M hM (f_X7_bestOf_L5 M p0 p1 n) ih k1 hk hF
          · have pf22 : (0 : Int32) ≤ v3 ∧ v3 ≤ (39 : Int32) := by
              have c23 : (0 : Int32) ≤ (M.1 26 0 5) ∧ (M.1 26 0 5) ≤ (40 : Int32) := hM.at1 26 0 5
              have c24 : (0 : Int32) ≤ (M.1 39 0 (v3).toNatClampNeg) ∧ (M.1 39 0 (v3).toNatClampNeg) ≤ (9 : Int32) := hM.at1 39 0 ((v3).toNatClampNeg)
              have c25 : (0 : Int32) ≤ (M.1 40 0 (v3).toNatClampNeg) ∧ (M.1 40 0 (v3).toNatClampNeg) ≤ (7 : Int32) := hM.at1 40 0 ((v3).toNatClampNeg)
              exact ⟨by grind, by grind⟩
            have pf26 : ((-1) : Int32) ≤ v4 ∧ v4 ≤ (39 : Int32) := by
              exact ⟨by grind, by grind⟩
            exact s_X7_bestOf_J50 v3 pf22 v4 pf26 M hM (1 : Int32) (show (0 : Int32) ≤ (1 : Int32) ∧ (1 : Int32) ≤ (1 : Int32) from ⟨by decide, by decide⟩) (f_X7_bestOf_L5 M p0 p1 n) ih k1 hk hF
        · have pf27 : (0 : Int32) ≤ v3 ∧ v3 ≤ (39 : Int32) := by
            have c28 : (0 : Int32) ≤ (M.1 26 0 5) ∧ (M.1 26 0 5) ≤ (40 : Int32) := hM.at1 26 0 5
            have c29 : (0 : Int32) ≤ (M.1 39 0 (v3).toNatClampNeg) ∧ (M.1 39 0 (v3).toNatClampNeg) ≤ (9 : Int32) := hM.at1 39 0 ((v3).toNatClampNeg)
            have c30 : (0 : Int32) ≤ (M.1 40 0 (v3).toNatClampNeg) ∧ (M.1 40 0 (v3).toNatClampNeg) ≤ (7 : Int32) := hM.at1 40 0 ((v3).toNatClampNeg)
            exact ⟨by grind, by grind⟩
          have pf31 : ((-1) : Int32) ≤ v4 ∧ v4 ≤ (39 : Int32) := by
            exact ⟨by grind, by grind⟩
          exact s_X7_bestOf_J49 v3 pf27 v4 pf31 M hM (f_X7_bestOf_L5 M p0 p1 n) ih k1 hk hF
      · have pf32 : (0 : Int32) ≤ v3 ∧ v3 ≤ (39 : Int32) := by
          have c33 : (0 : Int32) ≤ (M.1 26 0 5) ∧ (M.1 26 0 5) ≤ (40 : Int32) := hM.at1 26 0 5
          have c34 : (0 : Int32) ≤ (M.1 39 0 (v3).toNatClampNeg) ∧ (M.1 39 0 (v3).toNatClampNeg) ≤ (9 : Int32) := hM.at1 39 0 ((v3).toNatClampNeg)
          exact ⟨by grind, by grind⟩
        have pf35 : ((-1) : Int32) ≤ v4 ∧ v4 ≤ (39 : Int32) := by
          exact ⟨by grind, by grind⟩
        exact s_X7_bestOf_J49 v3 pf32 v4 pf35 M hM (f_X7_bestOf_L5 M p0 p1 n) ih k1 hk hF
theorem s_X7_bestOf {A : Nat → Nat → Nat → Prop} {B : SS} (M : SS) (hM : IV A B M) (p0 : Int32) (p1 : Int32) (ip1 : (0 : Int32) ≤ p1 ∧ p1 ≤ (7 : Int32)) : ok (f_X7_bestOf M p0 p1) (fun r => ((-1) : Int32) ≤ r ∧ r ≤ (39 : Int32)) := by
  unfold f_X7_bestOf
  have pf1 : (0 : Int32) ≤ p1 ∧ p1 ≤ (7 : Int32) := by
    exact ⟨by grind, by grind⟩
  have pf2 : FU (0 : Int32) 40 1000 := by
    exact FU.start (by grind) (by decide)
  refine s_X7_bestOf_L5 M hM p0 p1 pf1 1000 (0 : Int32) ((-1) : Int32) _ pf2 (show (0 : Int32) ≤ (0 : Int32) ∧ (0 : Int32) ≤ (40 : Int32) from ⟨by decide, by decide⟩) (show ((-1) : Int32) ≤ ((-1) : Int32) ∧ ((-1) : Int32) ≤ (39 : Int32) from ⟨by decide, by decide⟩) (fun v2 wv2 => ?_)
  have wv2 : ((-1) : Int32) ≤ v2 ∧ v2 ≤ (39 : Int32) := wv2
  have pf3 : ((-1) : Int32) ≤ v2 ∧ v2 ≤ (39 : Int32) := by
    exact ⟨by grind, by grind⟩
  exact ok_some pf3
theorem s_X7_pointsOf_L4 {A : Nat → Nat → Nat → Prop} {B : SS} (M : SS) (hM : IV A B M) (p0 : Int32) : ∀ (n : Nat), ∀ (v4 : Int32) (v5 : UInt32) (k2 : (UInt32 → Option (UInt32))), (FU v4 8 n) → ((0 : Int32) ≤ v4 ∧ v4 ≤ (8 : Int32)) → (vf_n32 v5) → (∀ (k_0 : UInt32), (vf_n32 k_0) → ok (k2 k_0) (fun r => vf_n32 r)) → ok (f_X7_pointsOf_L4 M p0 n v4 v5 k2) (fun r => vf_n32 r) := by
  intro n
  induction n with
  | zero =>
    intro v4 v5 k2 hF iv4 nv5 hk
    exact (FU.stop hF (show v4 ≤ (8 : Int32) by grind)).elim
  | succ n ih =>
    intro v4 v5 k2 hF iv4 nv5 hk
    rw [f_X7_pointsOf_L4]
    refine ok_ite (fun q1 => ?_) (fun q1 => ?_)
    · exact hk v5 nv5
    · have pf2 : (0 : Int32) ≤ v4 ∧ v4 ≤ (7 : Int32) := by
        have c3 : (0 : Int32) ≤ (M.1 26 0 3) ∧ (M.1 26 0 3) ≤ (8 : Int32) := hM.at1 26 0 3
        exact ⟨by grind, by grind⟩
      refine ok_b0 (s_X7_bestOf M hM p0 v4 pf2) (fun v7 w4 => ?_)
      have w5 : ((-1) : Int32) ≤ v7 ∧ v7 ≤ (39 : Int32) := w4
      refine ok_ite (fun q6 => ?_) (fun q6 => ?_)
      · have pf7 : FU (v4 + (1 : Int32)) 8 n := by
          have c8 : (0 : Int32) ≤ (M.1 26 0 3) ∧ (M.1 26 0 3) ≤ (8 : Int32) := hM.at1 26 0 3
          exact FU.step hF (by grind)
        have pf9 : (0 : Int32) ≤ (v4 + (1 : Int32)) ∧ (v4 + (1 : Int32)) ≤ (8 : Int32) := by
          have c10 : (0 : Int32) ≤ (M.1 26 0 3) ∧ (M.1 26 0 3) ≤ (8 : Int32) := hM.at1 26 0 3
          exact ⟨by grind, by grind⟩
        exact ih (v4 + (1 : Int32)) v5 k2 pf7 pf9 nv5 hk
      · have pf11 : (0 : Int32) ≤ v7 ∧ v7 ≤ (39 : Int32) := by
          exact ⟨by grind, by grind⟩
        refine ok_b0 (s_X7_weightOf M hM v7 pf11) (fun v10 w12 => ?_)
        have w13 : ((0 : Int32) ≤ v10 ∧ v10 ≤ (60 : Int32)) := w12
        refine ok_ite (fun q14 => ?_) (fun q14 => ?_)
        · refine ok_gd ?_ (fun g15 => ?_)
          · have c16 : (0 : Int32) ≤ (M.1 26 0 3) ∧ (M.1 26 0 3) ≤ (8 : Int32) := hM.at1 26 0 3
            exact vp_of (by decide) (by grind) (show v4 < (8 : Int32) by grind)
          have g15 := vp_to (by decide) g15
          have g15 : (0 : Int32) ≤ v4 ∧ v4 < (8 : Int32) := g15
          refine ok_gd ?_ (fun g17 => ?_)
          · exact nn_addi nv5
          refine ok_lq (fun v21 eq_18 => ?_)
          have nv21 : vf_n32 v21 := by rw [eq_18]; exact nn_addi nv5
          have pf19 : FU (v4 + (1 : Int32)) 8 n := by
            have c20 : (0 : Int32) ≤ (M.1 26 0 3) ∧ (M.1 26 0 3) ≤ (8 : Int32) := hM.at1 26 0 3
            exact FU.step hF (by grind)
          have pf21 : (0 : Int32) ≤ (v4 + (1 : Int32)) ∧ (v4 + (1 : Int32)) ≤ (8 : Int32) := by
            have c22 : (0 : Int32) ≤ (M.1 26 0 3) ∧ (M.1 26 0 3) ≤ (8 : Int32) := hM.at1 26 0 3
            exact ⟨by grind, by grind⟩
          exact ih (v4 + (1 : Int32)) v21 k2 pf19 pf21 nv21 hk
        · refine ok_gd ?_ (fun g23 => ?_)
          · have c24 : (0 : Int32) ≤ (M.1 26 0 3) ∧ (M.1 26 0 3) ≤ (8 : Int32) := hM.at1 26 0 3
            exact vp_of (by decide) (by grind) (show v4 < (8 : Int32) by grind)
          have g23 := vp_to (by decide) g23
          have g23 : (0 : Int32) ≤ v4 ∧ v4 < (8 : Int32) := g23
          have pf25 : (0 : Int32) ≤ v7 ∧ v7 ≤ (39 : Int32) := by
            exact ⟨by grind, by grind⟩
          refine ok_b0 (s_X7_weighed M hM v7 pf25) (fun v14 w26 => ?_)
          refine ok_gd ?_ (fun g27 => ?_)
          · have z28 : ¬ (v10 = 0) := by
              grind
            exact nn_fdiv z28
          refine ok_gd ?_ (fun g29 => ?_)
          · have z30 : ¬ (v10 = 0) := by
              grind
            exact nn_addq nv5 z30
          refine ok_lq (fun v18 eq_31 => ?_)
          have z32 : ¬ (v10 = 0) := by
            grind
          have nv18 : vf_n32 v18 := by rw [eq_31]; exact nn_addq nv5 z32
          have pf33 : FU (v4 + (1 : Int32)) 8 n := by
            have c34 : (0 : Int32) ≤ (M.1 26 0 3) ∧ (M.1 26 0 3) ≤ (8 : Int32) := hM.at1 26 0 3
            exact FU.step hF (by grind)
          have pf35 : (0 : Int32) ≤ (v4 + (1 : Int32)) ∧ (v4 + (1 : Int32)) ≤ (8 : Int32) := by
            have c36 : (0 : Int32) ≤ (M.1 26 0 3) ∧ (M.1 26 0 3) ≤ (8 : Int32) := hM.at1 26 0 3
            exact ⟨by grind, by grind⟩
          exact ih (v4 + (1 : Int32)) v18 k2 pf33 pf35 nv18 hk
theorem s_X7_pointsOf {A : Nat → Nat → Nat → Prop} {B : SS} (M : SS) (hM : IV A B M) (p0 : Int32) : ok (f_X7_pointsOf M p0) (fun r => vf_n32 r) := by
  unfold f_X7_pointsOf
  refine ok_lq (fun v1 eq_1 => ?_)
  have nv1 : vf_n32 v1 := by rw [eq_1]; exact nn_f0
  have pf2 : FU (0 : Int32) 8 1000 := by
    exact FU.start (by grind) (by decide)
  refine s_X7_pointsOf_L4 M hM p0 1000 (0 : Int32) v1 _ pf2 (show (0 : Int32) ≤ (0 : Int32) ∧ (0 : Int32) ≤ (8 : Int32) from ⟨by decide, by decide⟩) nv1 (fun v3 nv3 => ?_)
  exact ok_some nv3
theorem s_X7_beltOf_L48 (v2 : Int32) (v5 : UInt32) (nv5 : vf_n32 v5) : ∀ (n : Nat), ∀ (v9 : Int32) (v10 : Int32) (k7 : (Int32 → Option (Int32))), (FU v9 6 n) → ((1 : Int32) ≤ v9 ∧ v9 ≤ (6 : Int32)) → ((0 : Int32) ≤ v10 ∧ v10 ≤ (5 : Int32)) → (∀ (k_0 : Int32), ((0 : Int32) ≤ k_0 ∧ k_0 ≤ (5 : Int32)) → ok (k7 k_0) (fun r => (0 : Int32) ≤ r ∧ r ≤ (5 : Int32))) → ok (f_X7_beltOf_L48 v2 v5 n v9 v10 k7) (fun r => (0 : Int32) ≤ r ∧ r ≤ (5 : Int32)) := by
  intro n
  induction n with
  | zero =>
    intro v9 v10 k7 hF iv9 iv10 hk
    exact (FU.stop hF (show v9 ≤ (6 : Int32) by grind)).elim
  | succ n ih =>
    intro v9 v10 k7 hF iv9 iv10 hk
    rw [f_X7_beltOf_L48]
    refine ok_ite (fun q1 => ?_) (fun q1 => ?_)
    · have pf2 : (0 : Int32) ≤ v10 ∧ v10 ≤ (5 : Int32) := by
        exact ⟨by grind, by grind⟩
      exact hk v10 pf2
    · refine ok_ite (fun q3 => ?_) (fun q3 => ?_)
      · have pf4 : FU (v9 + (1 : Int32)) 6 n := by
          exact FU.step hF (by grind)
        have pf5 : (1 : Int32) ≤ (v9 + (1 : Int32)) ∧ (v9 + (1 : Int32)) ≤ (6 : Int32) := by
          exact ⟨by grind, by grind⟩
        have pf6 : (0 : Int32) ≤ v10 ∧ v10 ≤ (5 : Int32) := by
          exact ⟨by grind, by grind⟩
        exact ih (v9 + (1 : Int32)) v10 k7 pf4 pf5 pf6 hk
      · refine ok_ite (fun q7 => ?_) (fun q7 => ?_)
        · have pf8 : FU (v9 + (1 : Int32)) 6 n := by
            exact FU.step hF (by grind)
          have pf9 : (1 : Int32) ≤ (v9 + (1 : Int32)) ∧ (v9 + (1 : Int32)) ≤ (6 : Int32) := by
            exact ⟨by grind, by grind⟩
          have pf10 : (0 : Int32) ≤ v10 ∧ v10 ≤ (5 : Int32) := by
            exact ⟨by grind, by grind⟩
          exact ih (v9 + (1 : Int32)) v10 k7 pf8 pf9 pf10 hk
        · have pf11 : FU (v9 + (1 : Int32)) 6 n := by
            exact FU.step hF (by grind)
          have pf12 : (1 : Int32) ≤ (v9 + (1 : Int32)) ∧ (v9 + (1 : Int32)) ≤ (6 : Int32) := by
            exact ⟨by grind, by grind⟩
          have pf13 : (0 : Int32) ≤ v9 ∧ v9 ≤ (5 : Int32) := by
            exact ⟨by grind, by grind⟩
          exact ih (v9 + (1 : Int32)) v9 k7 pf11 pf12 pf13 hk
theorem s_X7_beltOf_L4 {A : Nat → Nat → Nat → Prop} {B : SS} (M : SS) (hM : IV A B M) (p0 : Int32) (ip0 : (0 : Int32) ≤ p0 ∧ p0 ≤ (9 : Int32)) : ∀ (n : Nat), ∀ (v3 : Int32) (v4 : Int32) (k1 : (Int32 → Option (Int32))), (FU v3 8 n) → ((0 : Int32) ≤ v3 ∧ v3 ≤ (8 : Int32)) → (∀ (k_0 : Int32), ok (k1 k_0) (fun r => (0 : Int32) ≤ r ∧ r ≤ (5 : Int32))) → ok (f_X7_beltOf_L4 M p0 n v3 v4 k1) (fun r => (0 : Int32) ≤ r ∧ r ≤ (5 : Int32)) := by
  intro n
  induction n with
  | zero =>
    intro v3 v4 k1 hF iv3 hk
    exact (FU.stop hF (show v3 ≤ (8 : Int32) by grind)).elim
  | succ n ih =>
    intro v3 v4 k1 hF iv3 hk
    rw [f_X7_beltOf_L4]
    refine ok_ite (fun q1 => ?_) (fun q1 => ?_)
    · exact hk v4
    · have pf2 : (0 : Int32) ≤ v3 ∧ v3 ≤ (7 : Int32) := by
        have c3 : (0 : Int32) ≤ (M.1 26 0 3) ∧ (M.1 26 0 3) ≤ (8 : Int32) := hM.at1 26 0 3
        exact ⟨by grind, by grind⟩
      refine ok_b0 (s_X7_bestOf M hM p0 v3 pf2) (fun v15 w4 => ?_)
      have w5 : ((-1) : Int32) ≤ v15 ∧ v15 ≤ (39 : Int32) := w4
      refine ok_ite (fun q6 => ?_) (fun q6 => ?_)
      · refine ok_lq (fun v19 eq_7 => ?_)
        have pf8 : FU (v3 + (1 : Int32)) 8 n := by
          have c9 : (0 : Int32) ≤ (M.1 26 0 3) ∧ (M.1 26 0 3) ≤ (8 : Int32) := hM.at1 26 0 3
          exact FU.step hF (by grind)
        have pf10 : (0 : Int32) ≤ (v3 + (1 : Int32)) ∧ (v3 + (1 : Int32)) ≤ (8 : Int32) := by
          have c11 : (0 : Int32) ≤ (M.1 26 0 3) ∧ (M.1 26 0 3) ≤ (8 : Int32) := hM.at1 26 0 3
          exact ⟨by grind, by grind⟩
        exact ih (v3 + (1 : Int32)) v19 k1 pf8 pf10 hk
      · refine ok_lq (fun v18 eq_12 => ?_)
        have pf13 : FU (v3 + (1 : Int32)) 8 n := by
          have c14 : (0 : Int32) ≤ (M.1 26 0 3) ∧ (M.1 26 0 3) ≤ (8 : Int32) := hM.at1 26 0 3
          exact FU.step hF (by grind)
        have pf15 : (0 : Int32) ≤ (v3 + (1 : Int32)) ∧ (v3 + (1 : Int32)) ≤ (8 : Int32) := by
          have c16 : (0 : Int32) ≤ (M.1 26 0 3) ∧ (M.1 26 0 3) ≤ (8 : Int32) := hM.at1 26 0 3
          exact ⟨by grind, by grind⟩
        exact ih (v3 + (1 : Int32)) v18 k1 pf13 pf15 hk
theorem s_X7_beltOf {A : Nat → Nat → Nat → Prop} {B : SS} (M : SS) (hM : IV A B M) (p0 : Int32) (ip0 : (0 : Int32) ≤ p0 ∧ p0 ≤ (9 : Int32)) : ok (f_X7_beltOf M p0) (fun r => (0 : Int32) ≤ r ∧ r ≤ (5 : Int32)) := by
  unfold f_X7_beltOf
  have pf1 : (0 : Int32) ≤ p0 ∧ p0 ≤ (9 : Int32) := by
    exact ⟨by grind, by grind⟩
  have pf2 : FU (0 : Int32) 8 1000 := by
    exact FU.start (by grind) (by decide)
  refine s_X7_beltOf_L4 M hM p0 pf1 1000 (0 : Int32) (0 : Int32) _ pf2 (show (0 : Int32) ≤ (0 : Int32) ∧ (0 : Int32) ≤ (8 : Int32) from ⟨by decide, by decide⟩) (fun v2 => ?_)
  refine ok_b0 (s_X7_pointsOf M hM p0) (fun v5 w3 => ?_)
  have nv5 : vf_n32 v5 := w3
  have pf4 : FU (1 : Int32) 6 1000 := by
    exact FU.start (by grind) (by decide)
  refine s_X7_beltOf_L48 v2 v5 nv5 1000 (1 : Int32) (0 : Int32) _ pf4 (show (1 : Int32) ≤ (1 : Int32) ∧ (1 : Int32) ≤ (6 : Int32) from ⟨by decide, by decide⟩) (show (0 : Int32) ≤ (0 : Int32) ∧ (0 : Int32) ≤ (5 : Int32) from ⟨by decide, by decide⟩) (fun v8 wv8 => ?_)
  have wv8 : (0 : Int32) ≤ v8 ∧ v8 ≤ (5 : Int32) := wv8
  have pf5 : (0 : Int32) ≤ v8 ∧ v8 ≤ (5 : Int32) := by
    exact ⟨by grind, by grind⟩
  exact ok_some pf5
theorem s_X7_vote {A : Nat → Nat → Nat → Prop} {B : SS} (M : SS) (hM : IV A B M) (p0 : Int32) (p1 : Int32) (p2 : Int32) (a1 : A 26 0 9) (a2 : ∀ p, A 46 0 p) (a3 : ∀ p, A 47 0 p) : ok (f_X7_vote M p0 p1 p2) (fun r => IV A B r.1 ∧ True) := by
  unfold f_X7_vote
  refine ok_b0 (s_X7_isMember M hM p0) (fun v1 w1 => ?_)
  have w2 : (0 : Int32) ≤ v1 ∧ v1 ≤ (1 : Int32) ∧ ((v1 = 0 ∧ (p0 < 0 ∨ (M.1 26 0 4) ≤ p0)) ∨ (v1 = 1 ∧ 0 ≤ p0 ∧ p0 < (M.1 26 0 4))) := w1
  refine ok_ite (fun q3 => ?_) (fun q3 => ?_)
  · refine ok_b1 (s_X7_fails M hM (1 : Int32) (show (1 : Int32) ≤ (1 : Int32) ∧ (1 : Int32) ≤ (3 : Int32) from ⟨by decide, by decide⟩) (a1)) (fun M5 v4 w4 => ?_)
    have hM5 : IV A B M5 := w4.1
    have w5 : (0 : Int32) ≤ v4 ∧ v4 ≤ (0 : Int32) := w4.2
    exact ok_some ⟨hM5, trivial⟩
  · refine ok_b0 (s_X7_isWork M hM p1) (fun v7 w6 => ?_)
    have w7 : (0 : Int32) ≤ v7 ∧ v7 ≤ (1 : Int32) ∧ ((v7 = 0 ∧ (p1 < 0 ∨ (M.1 26 0 5) ≤ p1)) ∨ (v7 = 1 ∧ 0 ≤ p1 ∧ p1 < (M.1 26 0 5))) := w6
    refine ok_ite (fun q8 => ?_) (fun q8 => ?_)
    · refine ok_b1 (s_X7_fails M hM (1 : Int32) (show (1 : Int32) ≤ (1 : Int32) ∧ (1 : Int32) ≤ (3 : Int32) from ⟨by decide, by decide⟩) (a1)) (fun M42 v41 w9 => ?_)
      have hM42 : IV A B M42 := w9.1
      have w10 : (0 : Int32) ≤ v41 ∧ v41 ≤ (0 : Int32) := w9.2
      exact ok_some ⟨hM42, trivial⟩
    · refine ok_b0 (s_X7_in p2 (1 : Int32) (show ((-999) : Int32) ≤ (1 : Int32) ∧ (1 : Int32) ≤ (1 : Int32) from ⟨by decide, by decide⟩) (5 : Int32) (show ((-1) : Int32) ≤ (5 : Int32) ∧ (5 : Int32) ≤ (999 : Int32) from ⟨by decide, by decide⟩)) (fun v10 w11 => ?_)
      have w12 : (0 : Int32) ≤ v10 ∧ v10 ≤ (1 : Int32) ∧ ((v10 = 0 ∧ (p2 < (1 : Int32) ∨ (5 : Int32) < p2)) ∨ (v10 = 1 ∧ (1 : Int32) ≤ p2 ∧ p2 ≤ (5 : Int32))) := w11
      refine ok_ite (fun q13 => ?_) (fun q13 => ?_)
      · refine ok_b1 (s_X7_fails M hM (2 : Int32) (show (1 : Int32) ≤ (2 : Int32) ∧ (2 : Int32) ≤ (3 : Int32) from ⟨by decide, by decide⟩) (a1)) (fun M39 v38 w14 => ?_)
        have hM39 : IV A B M39 := w14.1
        have w15 : (0 : Int32) ≤ v38 ∧ v38 ≤ (0 : Int32) := w14.2
        exact ok_some ⟨hM39, trivial⟩
      · refine ok_gd ?_ (fun g16 => ?_)
        · have c17 : (0 : Int32) ≤ (M.1 26 0 5) ∧ (M.1 26 0 5) ≤ (40 : Int32) := hM.at1 26 0 5
          exact vp_of (by decide) (by grind) (show p1 < (40 : Int32) by grind)
        have g16 := vp_to (by decide) g16
        have g16 : (0 : Int32) ≤ p1 ∧ p1 < (40 : Int32) := g16
        refine ok_ite (fun q18 => ?_) (fun q18 => ?_)
        · refine ok_b1 (s_X7_fails M hM (3 : Int32) (show (1 : Int32) ≤ (3 : Int32) ∧ (3 : Int32) ≤ (3 : Int32) from ⟨by decide, by decide⟩) (a1)) (fun M16 v15 w19 => ?_)
          have hM16 : IV A B M16 := w19.1
          have w20 : (0 : Int32) ≤ v15 ∧ v15 ≤ (0 : Int32) := w19.2
          exact ok_some ⟨hM16, trivial⟩
        · refine ok_gd ?_ (fun g21 => ?_)
          · have c22 : (0 : Int32) ≤ (M.1 26 0 5) ∧ (M.1 26 0 5) ≤ (40 : Int32) := hM.at1 26 0 5
            have c23 : (0 : Int32) ≤ (M.1 39 0 (p1).toNatClampNeg) ∧ (M.1 39 0 (p1).toNatClampNeg) ≤ (9 : Int32) := hM.at1 39 0 ((p1).toNatClampNeg)
            have c24 : (0 : Int32) ≤ (M.1 26 0 4) ∧ (M.1 26 0 4) ≤ (10 : Int32) := hM.at1 26 0 4
            exact vp_of (by decide) (by grind) (show p1 < (40 : Int32) by grind)
          have g21 := vp_to (by decide) g21
          have g21 : (0 : Int32) ≤ p1 ∧ p1 < (40 : Int32) := g21
          refine ok_ite (fun q25 => ?_) (fun q25 => ?_)
          · refine ok_b1 (s_X7_fails M hM (3 : Int32) (show (1 : Int32) ≤ (3 : Int32) ∧ (3 : Int32) ≤ (3 : Int32) from ⟨by decide, by decide⟩) (a1)) (fun M21 v20 w26 => ?_)
            have hM21 : IV A B M21 := w26.1
            have w27 : (0 : Int32) ≤ v20 ∧ v20 ≤ (0 : Int32) := w26.2
            exact ok_some ⟨hM21, trivial⟩
          · refine ok_gd ?_ (fun g28 => ?_)
            · have c29 : (0 : Int32) ≤ (M.1 26 0 5) ∧ (M.1 26 0 5) ≤ (40 : Int32) := hM.at1 26 0 5
              have c30 : (0 : Int32) ≤ (M.1 39 0 (p1).toNatClampNeg) ∧ (M.1 39 0 (p1).toNatClampNeg) ≤ (9 : Int32) := hM.at1 39 0 ((p1).toNatClampNeg)
              have c31 : (0 : Int32) ≤ (M.1 43 0 (p1).toNatClampNeg) ∧ (M.1 43 0 (p1).toNatClampNeg) ≤ (1 : Int32) := hM.at1 43 0 ((p1).toNatClampNeg)
              have c32 : (0 : Int32) ≤ (M.1 26 0 4) ∧ (M.1 26 0 4) ≤ (10 : Int32) := hM.at1 26 0 4
              exact vp_of (by decide) (by grind) (show p1 < (40 : Int32) by grind)
            have g28 := vp_to (by decide) g28
            have g28 : (0 : Int32) ≤ p1 ∧ p1 < (40 : Int32) := g28
            refine ok_ite (fun q33 => ?_) (fun q33 => ?_)
            · refine ok_b1 (s_X7_fails M hM (3 : Int32) (show (1 : Int32) ≤ (3 : Int32) ∧ (3 : Int32) ≤ (3 : Int32) from ⟨by decide, by decide⟩) (a1)) (fun M36 v35 w34 => ?_)
              have hM36 : IV A B M36 := w34.1
              have w35 : (0 : Int32) ≤ v35 ∧ v35 ≤ (0 : Int32) := w34.2
              exact ok_some ⟨hM36, trivial⟩
            · have pf36 : (0 : Int32) ≤ p0 ∧ p0 ≤ (9 : Int32) := by
                have c37 : (0 : Int32) ≤ (M.1 26 0 4) ∧ (M.1 26 0 4) ≤ (10 : Int32) := hM.at1 26 0 4
                have c38 : (0 : Int32) ≤ (M.1 39 0 (p1).toNatClampNeg) ∧ (M.1 39 0 (p1).toNatClampNeg) ≤ (9 : Int32) := hM.at1 39 0 ((p1).toNatClampNeg)
                have c39 : (0 : Int32) ≤ (M.1 26 0 5) ∧ (M.1 26 0 5) ≤ (40 : Int32) := hM.at1 26 0 5
                have c40 : (0 : Int32) ≤ (M.1 43 0 (p1).toNatClampNeg) ∧ (M.1 43 0 (p1).toNatClampNeg) ≤ (1 : Int32) := hM.at1 43 0 ((p1).toNatClampNeg)
                have c41 : (0 : Int32) ≤ (M.1 42 0 (p1).toNatClampNeg) ∧ (M.1 42 0 (p1).toNatClampNeg) ≤ (65535 : Int32) := hM.at1 42 0 ((p1).toNatClampNeg)
                exact ⟨by grind, by grind⟩
              refine ok_b0 (s_X7_beltOf M hM p0 pf36) (fun v25 w42 => ?_)
              have w43 : (0 : Int32) ≤ v25 ∧ v25 ≤ (5 : Int32) := w42
              refine ok_lq (fun v27 eq_44 => ?_)
              refine ok_gd ?_ (fun g45 => ?_)
              · have c46 : (0 : Int32) ≤ (M.1 26 0 4) ∧ (M.1 26 0 4) ≤ (10 : Int32) := hM.at1 26 0 4
                have c47 : (0 : Int32) ≤ (M.1 26 0 5) ∧ (M.1 26 0 5) ≤ (40 : Int32) := hM.at1 26 0 5
                have c48 : (0 : Int32) ≤ (M.1 39 0 (p1).toNatClampNeg) ∧ (M.1 39 0 (p1).toNatClampNeg) ≤ (9 : Int32) := hM.at1 39 0 ((p1).toNatClampNeg)
                have c49 : (0 : Int32) ≤ (M.1 43 0 (p1).toNatClampNeg) ∧ (M.1 43 0 (p1).toNatClampNeg) ≤ (1 : Int32) := hM.at1 43 0 ((p1).toNatClampNeg)
                have c50 : (0 : Int32) ≤ (M.1 42 0 (p1).toNatClampNeg) ∧ (M.1 42 0 (p1).toNatClampNeg) ≤ (65535 : Int32) := hM.at1 42 0 ((p1).toNatClampNeg)
                exact vp_of (by decide) (by grind) (show (((10 : Int32) * p1) + p0) < (400 : Int32) by grind)
              have g45 := vp_to (by decide) g45
              have g45 : (0 : Int32) ≤ (((10 : Int32) * p1) + p0) ∧ (((10 : Int32) * p1) + p0) < (400 : Int32) := g45
              refine ok_lq (fun M29 eq_51 => ?_)
              have pf52 : (0 : Int32) ≤ p2 ∧ p2 ≤ (5 : Int32) := by
                exact ⟨by grind, by grind⟩
              have hM29 : IV A B M29 := by rw [eq_51]; exact hM.w1 rfl (a2 (((((10 : Int32) * p1) + p0)).toNatClampNeg)) pf52
              refine ok_gd ?_ (fun g53 => ?_)
              · have c54 : (0 : Int32) ≤ (M.1 26 0 4) ∧ (M.1 26 0 4) ≤ (10 : Int32) := hM.at1 26 0 4
                have c55 : (0 : Int32) ≤ (M.1 26 0 5) ∧ (M.1 26 0 5) ≤ (40 : Int32) := hM.at1 26 0 5
                have c56 : (0 : Int32) ≤ (M.1 39 0 (p1).toNatClampNeg) ∧ (M.1 39 0 (p1).toNatClampNeg) ≤ (9 : Int32) := hM.at1 39 0 ((p1).toNatClampNeg)
                have c57 : (0 : Int32) ≤ (M.1 43 0 (p1).toNatClampNeg) ∧ (M.1 43 0 (p1).toNatClampNeg) ≤ (1 : Int32) := hM.at1 43 0 ((p1).toNatClampNeg)
                have c58 : (0 : Int32) ≤ (M.1 42 0 (p1).toNatClampNeg) ∧ (M.1 42 0 (p1).toNatClampNeg) ≤ (65535 : Int32) := hM.at1 42 0 ((p1).toNatClampNeg)
                exact vp_of (by decide) (by grind) (show (((10 : Int32) * p1) + p0) < (400 : Int32) by grind)
              have g53 := vp_to (by decide) g53
              have g53 : (0 : Int32) ≤ (((10 : Int32) * p1) + p0) ∧ (((10 : Int32) * p1) + p0) < (400 : Int32) := g53
              refine ok_lq (fun M31 eq_59 => ?_)
              have pf60 : (0 : Int32) ≤ v27 ∧ v27 ≤ (6 : Int32) := by
                exact ⟨by grind, by grind⟩
              have hM31 : IV A B M31 := by rw [eq_59]; exact hM29.w1 rfl (a3 (((((10 : Int32) * p1) + p0)).toNatClampNeg)) pf60
              refine ok_b1 (s_X7_tells M31 hM31 v27 (a1)) (fun M33 v32 w61 => ?_)
              have hM33 : IV A B M33 := w61.1
              exact ok_some ⟨hM33, trivial⟩
theorem emod_le2 {a b : Int} (ha : 0 ≤ a) (hb : 0 < b) : a % b ≤ a := by
  by_cases h : a < b
  · rw [Int.emod_eq_of_lt ha h]
    omega
  · have := Int.emod_lt_of_pos a hb
    omega
theorem rem_lt {a b : Int32} (h : 0 < b) : -b < a - a / b * b ∧ a - a / b * b < b := by
  have hb := Int32.lt_iff_toInt_lt.mp h
  rw [toInt_z] at hb
  have hb2 := b.toInt_lt
  have ha1 := a.le_toInt
  have ha2 := a.toInt_lt
  have hd : (a / b).toInt = a.toInt.tdiv b.toInt := by
    rw [Int32.toInt_div]
    apply Int.bmod_eq_of_le
    · have := Int.tdiv_le_tdiv hb (a := -2 ^ 31) (b := a.toInt) ha1
      have h3 : (-(2 ^ 31) : Int).tdiv b.toInt ≥ -(2 ^ 31) := by
        rw [Int.neg_tdiv]
        have := Int.tdiv_le_self b.toInt (a := 2 ^ 31) (by decide)
        omega
      omega
    · have := Int.tdiv_le_tdiv hb (a := a.toInt) (b := 2 ^ 31 - 1) (by omega)
      have := Int.tdiv_le_self b.toInt (a := 2 ^ 31 - 1) (by decide)
      omega
  have hm := Int.tmod_add_mul_tdiv a.toInt b.toInt
  have h1 := Int.tmod_lt_of_pos a.toInt hb
  have h2 : -b.toInt < a.toInt.tmod b.toInt := by
    have := Int.lt_tmod_of_pos a.toInt hb
    omega
  have hmul : (a / b * b).toInt = a.toInt.tdiv b.toInt * b.toInt := by
    rw [Int32.toInt_mul, hd]
    have : a.toInt.tdiv b.toInt * b.toInt = a.toInt - a.toInt.tmod b.toInt := by
      rw [Int.mul_comm]
      omega
    rw [this]
    have h5 : (0 ≤ a.toInt → 0 ≤ a.toInt.tmod b.toInt ∧ a.toInt.tmod b.toInt ≤ a.toInt) ∧ (a.toInt ≤ 0 → a.toInt.tmod b.toInt ≤ 0 ∧ a.toInt ≤ a.toInt.tmod b.toInt) := by
      refine ⟨fun z => ?_, fun z => ?_⟩
      · rw [Int.tmod_eq_emod_of_nonneg z]
        exact ⟨Int.emod_nonneg _ (by omega), emod_le2 z (by omega)⟩
      · have e : a.toInt = -(-a.toInt) := by omega
        rw [e, Int.neg_tmod, Int.tmod_eq_emod_of_nonneg (by omega)]
        have := Int.emod_nonneg (-a.toInt) (b := b.toInt) (by omega)
        have : (-a.toInt) % b.toInt ≤ -a.toInt := emod_le2 (by omega) (by omega)
        omega
    apply Int.bmod_eq_of_le <;> omega
  have hr : (a - a / b * b).toInt = a.toInt.tmod b.toInt := by
    rw [Int32.toInt_sub, hmul]
    have : a.toInt - a.toInt.tdiv b.toInt * b.toInt = a.toInt.tmod b.toInt := by
      rw [Int.mul_comm]
      omega
    rw [this]
    apply Int.bmod_eq_of_le <;> omega
  refine ⟨Int32.lt_iff_toInt_lt.mpr ?_, Int32.lt_iff_toInt_lt.mpr ?_⟩
  · rw [hr, Int32.toInt_neg]
    rw [show (-b.toInt).bmod (2 ^ 32) = -b.toInt by apply Int.bmod_eq_of_le <;> omega]
    exact h2
  · rw [hr]
    exact h1
theorem s_X7_style_L46 {A : Nat → Nat → Nat → Prop} {B : SS} : ∀ (n : Nat), ∀ (v13 : Int32) (v14 : Int32) (k11 : (Int32 → Option (SS × Int64))), (FZ v13 (n)) → (((-60) : Int32) ≤ v13 ∧ v13 ≤ (60 : Int32)) → (∀ (k_0 : Int32), ((0 < v13 → 0 < k_0) ∧ (v13 ≤ 0 → k_0 = v14)) → ok (k11 k_0) (fun r => IV A B r.1 ∧ True)) → ok (f_X7_style_L46 n v13 v14 k11) (fun r => IV A B r.1 ∧ True) := by
  intro n
  induction n with
  | zero =>
    intro v13 v14 k11 hF iv13 hk
    unfold FZ at hF
    omega
  | succ n ih =>
    intro v13 v14 k11 hF iv13 hk
    rw [f_X7_style_L46]
    refine ok_ite (fun q => hk v14 ⟨fun z => absurd q (by grind), fun _ => rfl⟩) (fun q => ?_)
    refine ok_gd (by grind) (fun g => ok_lq (fun v21 e => ?_))
    have h := rem_lt (a := v14) (b := v13) (by grind)
    rw [← e] at h
    refine ih v21 v13 k11 ?_ ⟨by grind, by grind⟩ (fun k0 ek => hk k0 ⟨fun _ => ?_, fun z => absurd z q⟩)
    · exact hF.step (by grind) h.2
    · by_cases z : 0 < v21
      · exact ek.1 z
      · have := ek.2 (by grind)
        grind
theorem s_X7_style {A : Nat → Nat → Nat → Prop} {B : SS} (M : SS) (hM : IV A B M) (p0 : Int32) (p1 : Int32) (a1 : A 26 0 9) : ok (f_X7_style M p0 p1) (fun r => IV A B r.1 ∧ True) := by
  unfold f_X7_style
  refine ok_b0 (s_X7_isWork M hM p0) (fun v1 w1 => ?_)
  have w2 : (0 : Int32) ≤ v1 ∧ v1 ≤ (1 : Int32) ∧ ((v1 = 0 ∧ (p0 < 0 ∨ (M.1 26 0 5) ≤ p0)) ∨ (v1 = 1 ∧ 0 ≤ p0 ∧ p0 < (M.1 26 0 5))) := w1
  refine ok_ite (fun q3 => ?_) (fun q3 => ?_)
  · unfold f_X7_style_J14
    refine ok_lq (fun M5 eq_4 => ?_)
    have hM5 : IV A B M5 := by rw [eq_4]; exact hM.w1 rfl (a1) (show (0 : Int32) ≤ (1 : Int32) ∧ (1 : Int32) ≤ (3 : Int32) from ⟨by decide, by decide⟩)
    refine ok_ite (fun q5 => ?_) (fun q5 => ?_)
    · have c6 : (M5.1 26 0 9) = (1 : Int32) := by rw [eq_4]; exact up_s
      exfalso
      grind
    · have c7 : (M5.1 26 0 9) = (1 : Int32) := by rw [eq_4]; exact up_s
      exact ok_some ⟨hM5, trivial⟩
  · unfold f_X7_style_J14
    refine ok_lq (fun M5 eq_8 => ?_)
    have hM5 : IV A B M5 := by rw [eq_8]; exact hM.w1 rfl (a1) (show (0 : Int32) ≤ (0 : Int32) ∧ (0 : Int32) ≤ (3 : Int32) from ⟨by decide, by decide⟩)
    refine ok_ite (fun q9 => ?_) (fun q9 => ?_)
    · have c10 : (M5.1 26 0 9) = (0 : Int32) := by rw [eq_8]; exact up_s
      have pf11 : (0 : Int32) ≤ p0 ∧ p0 ≤ (39 : Int32) := by
        have c12 : (0 : Int32) ≤ (M.1 26 0 5) ∧ (M.1 26 0 5) ≤ (40 : Int32) := hM.at1 26 0 5
        exact ⟨by grind, by grind⟩
      refine ok_b0 (s_X7_weighed M5 hM5 p0 pf11) (fun v7 w13 => ?_)
      have pf14 : (0 : Int32) ≤ p0 ∧ p0 ≤ (39 : Int32) := by
        have c15 : (0 : Int32) ≤ (M.1 26 0 5) ∧ (M.1 26 0 5) ≤ (40 : Int32) := hM.at1 26 0 5
        exact ⟨by grind, by grind⟩
      refine ok_b0 (s_X7_weightOf M5 hM5 p0 pf14) (fun v9 w16 => ?_)
      have w17 : ((0 : Int32) ≤ v9 ∧ v9 ≤ (60 : Int32)) := w16
      have pf18 : FZ v9 (1000) := by
        exact FZ.start (by grind)
      have pf19 : ((-60) : Int32) ≤ v9 ∧ v9 ≤ (60 : Int32) := by
        exact ⟨by grind, by grind⟩
      refine s_X7_style_L46 1000 v9 v7 _ pf18 pf19 (fun v12 ek => ?_)
      have eq_20 : (0 < v9 → 0 < v12) ∧ (v9 ≤ 0 → v12 = v7) := ek
      refine ok_ite (fun q21 => ?_) (fun q21 => ?_)
      · exact ok_some ⟨hM5, trivial⟩
      · refine ok_ite (fun q22 => ?_) (fun q22 => ?_)
        · refine ok_gd ?_ (fun g23 => ?_)
          · grind
          exact ok_some ⟨hM5, trivial⟩
        · refine ok_gd ?_ (fun g24 => ?_)
          · grind
          exact ok_some ⟨hM5, trivial⟩
    · have c25 : (M5.1 26 0 9) = (0 : Int32) := by rw [eq_8]; exact up_s
      exfalso
      grind
theorem s_X7_isAhead {A : Nat → Nat → Nat → Prop} {B : SS} (M : SS) (hM : IV A B M) (p0 : Int32) (ip0 : (0 : Int32) ≤ p0 ∧ p0 ≤ (39 : Int32)) (p1 : Int32) (ip1 : (0 : Int32) ≤ p1 ∧ p1 ≤ (39 : Int32)) : ok (f_X7_isAhead M p0 p1) (fun r => (0 : Int32) ≤ r ∧ r ≤ (1 : Int32)) := by
  unfold f_X7_isAhead
  have pf1 : (0 : Int32) ≤ p1 ∧ p1 ≤ (39 : Int32) := by
    exact ⟨by grind, by grind⟩
  refine ok_b0 (s_X7_votesOf M hM p1 pf1) (fun v1 w2 => ?_)
  have pf3 : (0 : Int32) ≤ p0 ∧ p0 ≤ (39 : Int32) := by
    exact ⟨by grind, by grind⟩
  refine ok_b0 (s_X7_votesOf M hM p0 pf3) (fun v3 w4 => ?_)
  refine ok_lq (fun v5 eq_5 => ?_)
  refine ok_ite (fun q6 => ?_) (fun q6 => ?_)
  · have pf7 : (0 : Int32) ≤ (1 : Int32) ∧ (1 : Int32) ≤ (1 : Int32) := by
      exact ⟨by grind, by grind⟩
    exact ok_some pf7
  · refine ok_ite (fun q8 => ?_) (fun q8 => ?_)
    · refine ok_gd ?_ (fun g9 => ?_)
      · exact vp_of (by decide) (by grind) (show p0 < (40 : Int32) by grind)
      have g9 := vp_to (by decide) g9
      have g9 : (0 : Int32) ≤ p0 ∧ p0 < (40 : Int32) := g9
      refine ok_gd ?_ (fun g10 => ?_)
      · have c11 : (0 : Int32) ≤ (M.1 40 0 (p0).toNatClampNeg) ∧ (M.1 40 0 (p0).toNatClampNeg) ≤ (7 : Int32) := hM.at1 40 0 ((p0).toNatClampNeg)
        exact vp_of (by decide) (by grind) (show (M.1 40 0 (p0).toNatClampNeg) < (8 : Int32) by grind)
      have g10 := vp_to (by decide) g10
      have g10 : (0 : Int32) ≤ (M.1 40 0 (p0).toNatClampNeg) ∧ (M.1 40 0 (p0).toNatClampNeg) < (8 : Int32) := g10
      refine ok_gd ?_ (fun g12 => ?_)
      · exact vp_of (by decide) (by grind) (show p1 < (40 : Int32) by grind)
      have g12 := vp_to (by decide) g12
      have g12 : (0 : Int32) ≤ p1 ∧ p1 < (40 : Int32) := g12
      refine ok_gd ?_ (fun g13 => ?_)
      · have c14 : (0 : Int32) ≤ (M.1 40 0 (p1).toNatClampNeg) ∧ (M.1 40 0 (p1).toNatClampNeg) ≤ (7 : Int32) := hM.at1 40 0 ((p1).toNatClampNeg)
        exact vp_of (by decide) (by grind) (show (M.1 40 0 (p1).toNatClampNeg) < (8 : Int32) by grind)
      have g13 := vp_to (by decide) g13
      have g13 : (0 : Int32) ≤ (M.1 40 0 (p1).toNatClampNeg) ∧ (M.1 40 0 (p1).toNatClampNeg) < (8 : Int32) := g13
      refine ok_ite (fun q15 => ?_) (fun q15 => ?_)
      · have pf16 : (0 : Int32) ≤ (0 : Int32) ∧ (0 : Int32) ≤ (1 : Int32) := by
          exact ⟨by grind, by grind⟩
        exact ok_some pf16
      · have pf17 : (0 : Int32) ≤ (1 : Int32) ∧ (1 : Int32) ≤ (1 : Int32) := by
          exact ⟨by grind, by grind⟩
        exact ok_some pf17
    · have pf18 : (0 : Int32) ≤ (0 : Int32) ∧ (0 : Int32) ≤ (1 : Int32) := by
        exact ⟨by grind, by grind⟩
      exact ok_some pf18
theorem s_X7_review_J75 {A : Nat → Nat → Nat → Prop} {B : SS} (v6 : Int32) (iv6 : (0 : Int32) ≤ v6 ∧ v6 ≤ (39 : Int32)) (v7 : Int32) (iv7 : ((-1) : Int32) ≤ v7 ∧ v7 ≤ (39 : Int32)) (M : SS) (hM : IV A B M) (v17 : Int32) (iv17 : (0 : Int32) ≤ v17 ∧ v17 ≤ (1 : Int32)) {n : Nat} (rc : Int32 → Int32 → (Int32 → Option (SS × Int32)) → Option (SS × Int32)) (hrc : ∀ (v6 : Int32) (v7 : Int32) (k4 : (Int32 → Option (SS × Int32))), (FU v6 40 n) → ((0 : Int32) ≤ v6 ∧ v6 ≤ (40 : Int32)) → (((-1) : Int32) ≤ v7 ∧ v7 ≤ (39 : Int32)) → (∀ (k_0 : Int32), (((-1) : Int32) ≤ k_0 ∧ k_0 ≤ (39 : Int32)) → ok (k4 k_0) (fun r => IV A B r.1 ∧ True)) → ok (rc v6 v7 k4) (fun r => IV A B r.1 ∧ True)) (k4 : Int32 → Option (SS × Int32)) (hk : ∀ (k_0 : Int32), (((-1) : Int32) ≤ k_0 ∧ k_0 ≤ (39 : Int32)) → ok (k4 k_0) (fun r => IV A B r.1 ∧ True)) (hF : FU v6 40 (n + 1)) : ok (f_X7_review_J75 rc k4 v6 v7 M v17) (fun r => IV A B r.1 ∧ True) := by
  unfold f_X7_review_J75
  refine ok_ite (fun q1 => ?_) (fun q1 => ?_)
  · have pf2 : FU (v6 + (1 : Int32)) 40 n := by
      exact FU.step hF (by grind)
    have pf3 : (0 : Int32) ≤ (v6 + (1 : Int32)) ∧ (v6 + (1 : Int32)) ≤ (40 : Int32) := by
      exact ⟨by grind, by grind⟩
    have pf4 : ((-1) : Int32) ≤ v7 ∧ v7 ≤ (39 : Int32) := by
      exact ⟨by grind, by grind⟩
    exact hrc (v6 + (1 : Int32)) v7 k4 pf2 pf3 pf4 hk
  · refine ok_ite (fun q5 => ?_) (fun q5 => ?_)
    · have pf6 : FU (v6 + (1 : Int32)) 40 n := by
        exact FU.step hF (by grind)
      have pf7 : (0 : Int32) ≤ (v6 + (1 : Int32)) ∧ (v6 + (1 : Int32)) ≤ (40 : Int32) := by
        exact ⟨by grind, by grind⟩
      have pf8 : ((-1) : Int32) ≤ v6 ∧ v6 ≤ (39 : Int32) := by
        exact ⟨by grind, by grind⟩
      exact hrc (v6 + (1 : Int32)) v6 k4 pf6 pf7 pf8 hk
    · have pf9 : (0 : Int32) ≤ v6 ∧ v6 ≤ (39 : Int32) := by
        exact ⟨by grind, by grind⟩
      have pf10 : (0 : Int32) ≤ v7 ∧ v7 ≤ (39 : Int32) := by
        exact ⟨by grind, by grind⟩
      refine ok_b0 (s_X7_isAhead M hM v6 pf9 v7 pf10) (fun v21 w11 => ?_)
      have w12 : (0 : Int32) ≤ v21 ∧ v21 ≤ (1 : Int32) := w11
      refine ok_ite (fun q13 => ?_) (fun q13 => ?_)
      · have pf14 : FU (v6 + (1 : Int32)) 40 n := by
          exact FU.step hF (by grind)
        have pf15 : (0 : Int32) ≤ (v6 + (1 : Int32)) ∧ (v6 + (1 : Int32)) ≤ (40 : Int32) := by
          exact ⟨by grind, by grind⟩
        have pf16 : ((-1) : Int32) ≤ v7 ∧ v7 ≤ (39 : Int32) := by
          exact ⟨by grind, by grind⟩
        exact hrc (v6 + (1 : Int32)) v7 k4 pf14 pf15 pf16 hk
      · have pf17 : FU (v6 + (1 : Int32)) 40 n := by
          exact FU.step hF (by grind)
        have pf18 : (0 : Int32) ≤ (v6 + (1 : Int32)) ∧ (v6 + (1 : Int32)) ≤ (40 : Int32) := by
          exact ⟨by grind, by grind⟩
        have pf19 : ((-1) : Int32) ≤ v6 ∧ v6 ≤ (39 : Int32) := by
          exact ⟨by grind, by grind⟩
        exact hrc (v6 + (1 : Int32)) v6 k4 pf17 pf18 pf19 hk
theorem s_X7_review_J74 {A : Nat → Nat → Nat → Prop} {B : SS} (v6 : Int32) (iv6 : (0 : Int32) ≤ v6 ∧ v6 ≤ (39 : Int32)) (v7 : Int32) (iv7 : ((-1) : Int32) ≤ v7 ∧ v7 ≤ (39 : Int32)) (M : SS) (hM : IV A B M) {n : Nat} (rc : Int32 → Int32 → (Int32 → Option (SS × Int32)) → Option (SS × Int32)) (hrc : ∀ (v6 : Int32) (v7 : Int32) (k4 : (Int32 → Option (SS × Int32))), (FU v6 40 n) → ((0 : Int32) ≤ v6 ∧ v6 ≤ (40 : Int32)) → (((-1) : Int32) ≤ v7 ∧ v7 ≤ (39 : Int32)) → (∀ (k_0 : Int32), (((-1) : Int32) ≤ k_0 ∧ k_0 ≤ (39 : Int32)) → ok (k4 k_0) (fun r => IV A B r.1 ∧ True)) → ok (rc v6 v7 k4) (fun r => IV A B r.1 ∧ True)) (k4 : Int32 → Option (SS × Int32)) (hk : ∀ (k_0 : Int32), (((-1) : Int32) ≤ k_0 ∧ k_0 ≤ (39 : Int32)) → ok (k4 k_0) (fun r => IV A B r.1 ∧ True)) (hF : FU v6 40 (n + 1)) : ok (f_X7_review_J74 rc k4 v6 v7 M) (fun r => IV A B r.1 ∧ True) := by
  unfold f_X7_review_J74
  have pf1 : (0 : Int32) ≤ v6 ∧ v6 ≤ (39 : Int32) := by
    exact ⟨by grind, by grind⟩
  have pf2 : ((-1) : Int32) ≤ v7 ∧ v7 ≤ (39 : Int32) := by
    exact ⟨by grind, by grind⟩
  exact s_X7_review_J75 v6 pf1 v7 pf2 M hM (0 : Int32) (show (0 : Int32) ≤ (0 : Int32) ∧ (0 : Int32) ≤ (1 : Int32) from ⟨by decide, by decide⟩) rc hrc k4 hk hF
theorem s_X7_review_L18 {A : Nat → Nat → Nat → Prop} {B : SS} (M : SS) (hM : IV A B M) (p0 : Int32) (ip0 : (0 : Int32) ≤ p0 ∧ p0 ≤ (9 : Int32)) : ∀ (n : Nat), ∀ (v6 : Int32) (v7 : Int32) (k4 : (Int32 → Option (SS × Int32))), (FU v6 40 n) → ((0 : Int32) ≤ v6 ∧ v6 ≤ (40 : Int32)) → (((-1) : Int32) ≤ v7 ∧ v7 ≤ (39 : Int32)) → (∀ (k_0 : Int32), (((-1) : Int32) ≤ k_0 ∧ k_0 ≤ (39 : Int32)) → ok (k4 k_0) (fun r => IV A B r.1 ∧ True)) → ok (f_X7_review_L18 M p0 n v6 v7 k4) (fun r => IV A B r.1 ∧ True) := by
  intro n
  induction n with
  | zero =>
    intro v6 v7 k4 hF iv6 iv7 hk
    exact (FU.stop hF (show v6 ≤ (40 : Int32) by grind)).elim
  | succ n ih =>
    intro v6 v7 k4 hF iv6 iv7 hk
    rw [f_X7_review_L18]
    refine ok_ite (fun q1 => ?_) (fun q1 => ?_)
    · have pf2 : ((-1) : Int32) ≤ v7 ∧ v7 ≤ (39 : Int32) := by
        exact ⟨by grind, by grind⟩
      exact hk v7 pf2
    · refine ok_gd ?_ (fun g3 => ?_)
      · have c4 : (0 : Int32) ≤ (M.1 26 0 5) ∧ (M.1 26 0 5) ≤ (40 : Int32) := hM.at1 26 0 5
        exact vp_of (by decide) (by grind) (show v6 < (40 : Int32) by grind)
      have g3 := vp_to (by decide) g3
      have g3 : (0 : Int32) ≤ v6 ∧ v6 < (40 : Int32) := g3
      refine ok_ite (fun q5 => ?_) (fun q5 => ?_)
      · have pf6 : (0 : Int32) ≤ v6 ∧ v6 ≤ (39 : Int32) := by
          have c7 : (0 : Int32) ≤ (M.1 26 0 5) ∧ (M.1 26 0 5) ≤ (40 : Int32) := hM.at1 26 0 5
          have c8 : (0 : Int32) ≤ (M.1 43 0 (v6).toNatClampNeg) ∧ (M.1 43 0 (v6).toNatClampNeg) ≤ (1 : Int32) := hM.at1 43 0 ((v6).toNatClampNeg)
          exact ⟨by grind, by grind⟩
        have pf9 : ((-1) : Int32) ≤ v7 ∧ v7 ≤ (39 : Int32) := by
          exact ⟨by grind, by grind⟩
        exact s_X7_review_J74 v6 pf6 v7 pf9 M hM (f_X7_review_L18 M p0 n) ih k4 hk hF
      · refine ok_gd ?_ (fun g10 => ?_)
        · have c11 : (0 : Int32) ≤ (M.1 26 0 5) ∧ (M.1 26 0 5) ≤ (40 : Int32) := hM.at1 26 0 5
          have c12 : (0 : Int32) ≤ (M.1 43 0 (v6).toNatClampNeg) ∧ (M.1 43 0 (v6).toNatClampNeg) ≤ (1 : Int32) := hM.at1 43 0 ((v6).toNatClampNeg)
          exact vp_of (by decide) (by grind) (show v6 < (40 : Int32) by grind)
        have g10 := vp_to (by decide) g10
        have g10 : (0 : Int32) ≤ v6 ∧ v6 < (40 : Int32) := g10
        refine ok_ite (fun q13 => ?_) (fun q13 => ?_)
        · refine ok_gd ?_ (fun g14 => ?_)
          · have c15 : (0 : Int32) ≤ (M.1 26 0 5) ∧ (M.1 26 0 5) ≤ (40 : Int32) := hM.at1 26 0 5
            have c16 : (0 : Int32) ≤ (M.1 43 0 (v6).toNatClampNeg) ∧ (M.1 43 0 (v6).toNatClampNeg) ≤ (1 : Int32) := hM.at1 43 0 ((v6).toNatClampNeg)
            have c17 : (0 : Int32) ≤ (M.1 42 0 (v6).toNatClampNeg) ∧ (M.1 42 0 (v6).toNatClampNeg) ≤ (65535 : Int32) := hM.at1 42 0 ((v6).toNatClampNeg)
            exact vp_of (by decide) (by grind) (show v6 < (40 : Int32) by grind)
          have g14 := vp_to (by decide) g14
          have g14 : (0 : Int32) ≤ v6 ∧ v6 < (40 : Int32) := g14
          refine ok_ite (fun q18 => ?_) (fun q18 => ?_)
          · have pf19 : (0 : Int32) ≤ v6 ∧ v6 ≤ (39 : Int32) := by
              have c20 : (0 : Int32) ≤ (M.1 26 0 5) ∧ (M.1 26 0 5) ≤ (40 : Int32) := hM.at1 26 0 5
              have c21 : (0 : Int32) ≤ (M.1 43 0 (v6).toNatClampNeg) ∧ (M.1 43 0 (v6).toNatClampNeg) ≤ (1 : Int32) := hM.at1 43 0 ((v6).toNatClampNeg)
              have c22 : (0 : Int32) ≤ (M.1 42 0 (v6).toNatClampNeg) ∧ (M.1 42 0 (v6).toNatClampNeg) ≤ (65535 : Int32) := hM.at1 42 0 ((v6).toNatClampNeg)
              have c23 : (0 : Int32) ≤ (M.1 39 0 (v6).toNatClampNeg) ∧ (M.1 39 0 (v6).toNatClampNeg) ≤ (9 : Int32) := hM.at1 39 0 ((v6).toNatClampNeg)
              exact ⟨by grind, by grind⟩
            have pf24 : ((-1) : Int32) ≤ v7 ∧ v7 ≤ (39 : Int32) := by
              exact ⟨by grind, by grind⟩
            exact s_X7_review_J74 v6 pf19 v7 pf24 M hM (f_X7_review_L18 M p0 n) ih k4 hk hF
          · refine ok_gd ?_ (fun g25 => ?_)
            · have c26 : (0 : Int32) ≤ (M.1 26 0 5) ∧ (M.1 26 0 5) ≤ (40 : Int32) := hM.at1 26 0 5
              have c27 : (0 : Int32) ≤ (M.1 43 0 (v6).toNatClampNeg) ∧ (M.1 43 0 (v6).toNatClampNeg) ≤ (1 : Int32) := hM.at1 43 0 ((v6).toNatClampNeg)
              have c28 : (0 : Int32) ≤ (M.1 42 0 (v6).toNatClampNeg) ∧ (M.1 42 0 (v6).toNatClampNeg) ≤ (65535 : Int32) := hM.at1 42 0 ((v6).toNatClampNeg)
              have c29 : (0 : Int32) ≤ (M.1 39 0 (v6).toNatClampNeg) ∧ (M.1 39 0 (v6).toNatClampNeg) ≤ (9 : Int32) := hM.at1 39 0 ((v6).toNatClampNeg)
              exact vp_of (by decide) (by grind) (show (((10 : Int32) * v6) + p0) < (400 : Int32) by grind)
            have g25 := vp_to (by decide) g25
            have g25 : (0 : Int32) ≤ (((10 : Int32) * v6) + p0) ∧ (((10 : Int32) * v6) + p0) < (400 : Int32) := g25
            refine ok_ite (fun q30 => ?_) (fun q30 => ?_)
            · have pf31 : (0 : Int32) ≤ v6 ∧ v6 ≤ (39 : Int32) := by
                have c32 : (0 : Int32) ≤ (M.1 26 0 5) ∧ (M.1 26 0 5) ≤ (40 : Int32) := hM.at1 26 0 5
                have c33 : (0 : Int32) ≤ (M.1 43 0 (v6).toNatClampNeg) ∧ (M.1 43 0 (v6).toNatClampNeg) ≤ (1 : Int32) := hM.at1 43 0 ((v6).toNatClampNeg)
                have c34 : (0 : Int32) ≤ (M.1 42 0 (v6).toNatClampNeg) ∧ (M.1 42 0 (v6).toNatClampNeg) ≤ (65535 : Int32) := hM.at1 42 0 ((v6).toNatClampNeg)
                have c35 : (0 : Int32) ≤ (M.1 39 0 (v6).toNatClampNeg) ∧ (M.1 39 0 (v6).toNatClampNeg) ≤ (9 : Int32) := hM.at1 39 0 ((v6).toNatClampNeg)
                have c36 : (0 : Int32) ≤ (M.1 46 0 ((((10 : Int32) * v6) + p0)).toNatClampNeg) ∧ (M.1 46 0 ((((10 : Int32) * v6) + p0)).toNatClampNeg) ≤ (5 : Int32) := hM.at1 46 0 (((((10 : Int32) * v6) + p0)).toNatClampNeg)
                exact ⟨by grind, by grind⟩
              have pf37 : ((-1) : Int32) ≤ v7 ∧ v7 ≤ (39 : Int32) := by
                exact ⟨by grind, by grind⟩
              exact s_X7_review_J75 v6 pf31 v7 pf37 M hM (1 : Int32) (show (0 : Int32) ≤ (1 : Int32) ∧ (1 : Int32) ≤ (1 : Int32) from ⟨by decide, by decide⟩) (f_X7_review_L18 M p0 n) ih k4 hk hF
            · have pf38 : (0 : Int32) ≤ v6 ∧ v6 ≤ (39 : Int32) := by
                have c39 : (0 : Int32) ≤ (M.1 26 0 5) ∧ (M.1 26 0 5) ≤ (40 : Int32) := hM.at1 26 0 5
                have c40 : (0 : Int32) ≤ (M.1 43 0 (v6).toNatClampNeg) ∧ (M.1 43 0 (v6).toNatClampNeg) ≤ (1 : Int32) := hM.at1 43 0 ((v6).toNatClampNeg)
                have c41 : (0 : Int32) ≤ (M.1 42 0 (v6).toNatClampNeg) ∧ (M.1 42 0 (v6).toNatClampNeg) ≤ (65535 : Int32) := hM.at1 42 0 ((v6).toNatClampNeg)
                have c42 : (0 : Int32) ≤ (M.1 39 0 (v6).toNatClampNeg) ∧ (M.1 39 0 (v6).toNatClampNeg) ≤ (9 : Int32) := hM.at1 39 0 ((v6).toNatClampNeg)
                have c43 : (0 : Int32) ≤ (M.1 46 0 ((((10 : Int32) * v6) + p0)).toNatClampNeg) ∧ (M.1 46 0 ((((10 : Int32) * v6) + p0)).toNatClampNeg) ≤ (5 : Int32) := hM.at1 46 0 (((((10 : Int32) * v6) + p0)).toNatClampNeg)
                exact ⟨by grind, by grind⟩
              have pf44 : ((-1) : Int32) ≤ v7 ∧ v7 ≤ (39 : Int32) := by
                exact ⟨by grind, by grind⟩
              exact s_X7_review_J74 v6 pf38 v7 pf44 M hM (f_X7_review_L18 M p0 n) ih k4 hk hF
        · have pf45 : (0 : Int32) ≤ v6 ∧ v6 ≤ (39 : Int32) := by
            have c46 : (0 : Int32) ≤ (M.1 26 0 5) ∧ (M.1 26 0 5) ≤ (40 : Int32) := hM.at1 26 0 5
            have c47 : (0 : Int32) ≤ (M.1 43 0 (v6).toNatClampNeg) ∧ (M.1 43 0 (v6).toNatClampNeg) ≤ (1 : Int32) := hM.at1 43 0 ((v6).toNatClampNeg)
            have c48 : (0 : Int32) ≤ (M.1 42 0 (v6).toNatClampNeg) ∧ (M.1 42 0 (v6).toNatClampNeg) ≤ (65535 : Int32) := hM.at1 42 0 ((v6).toNatClampNeg)
            exact ⟨by grind, by grind⟩
          have pf49 : ((-1) : Int32) ≤ v7 ∧ v7 ≤ (39 : Int32) := by
            exact ⟨by grind, by grind⟩
          exact s_X7_review_J74 v6 pf45 v7 pf49 M hM (f_X7_review_L18 M p0 n) ih k4 hk hF
theorem s_X7_review {A : Nat → Nat → Nat → Prop} {B : SS} (M : SS) (hM : IV A B M) (p0 : Int32) (a1 : A 26 0 9) : ok (f_X7_review M p0) (fun r => IV A B r.1 ∧ True) := by
  unfold f_X7_review
  refine ok_b0 (s_X7_isMember M hM p0) (fun v1 w1 => ?_)
  have w2 : (0 : Int32) ≤ v1 ∧ v1 ≤ (1 : Int32) ∧ ((v1 = 0 ∧ (p0 < 0 ∨ (M.1 26 0 4) ≤ p0)) ∨ (v1 = 1 ∧ 0 ≤ p0 ∧ p0 < (M.1 26 0 4))) := w1
  refine ok_ite (fun q3 => ?_) (fun q3 => ?_)
  · refine ok_b1 (s_X7_fails M hM (1 : Int32) (show (1 : Int32) ≤ (1 : Int32) ∧ (1 : Int32) ≤ (3 : Int32) from ⟨by decide, by decide⟩) (a1)) (fun M33 v32 w4 => ?_)
    have hM33 : IV A B M33 := w4.1
    have w5 : (0 : Int32) ≤ v32 ∧ v32 ≤ (0 : Int32) := w4.2
    exact ok_some ⟨hM33, trivial⟩
  · have pf6 : (0 : Int32) ≤ p0 ∧ p0 ≤ (9 : Int32) := by
      have c7 : (0 : Int32) ≤ (M.1 26 0 4) ∧ (M.1 26 0 4) ≤ (10 : Int32) := hM.at1 26 0 4
      exact ⟨by grind, by grind⟩
    have pf8 : FU (0 : Int32) 40 1000 := by
      exact FU.start (by grind) (by decide)
    refine s_X7_review_L18 M hM p0 pf6 1000 (0 : Int32) ((-1) : Int32) _ pf8 (show (0 : Int32) ≤ (0 : Int32) ∧ (0 : Int32) ≤ (40 : Int32) from ⟨by decide, by decide⟩) (show ((-1) : Int32) ≤ ((-1) : Int32) ∧ ((-1) : Int32) ≤ (39 : Int32) from ⟨by decide, by decide⟩) (fun v5 wv5 => ?_)
    have wv5 : ((-1) : Int32) ≤ v5 ∧ v5 ≤ (39 : Int32) := wv5
    refine ok_ite (fun q9 => ?_) (fun q9 => ?_)
    · refine ok_b1 (s_X7_fails M hM (2 : Int32) (show (1 : Int32) ≤ (2 : Int32) ∧ (2 : Int32) ≤ (3 : Int32) from ⟨by decide, by decide⟩) (a1)) (fun M13 v12 w10 => ?_)
      have hM13 : IV A B M13 := w10.1
      have w11 : (0 : Int32) ≤ v12 ∧ v12 ≤ (0 : Int32) := w10.2
      exact ok_some ⟨hM13, trivial⟩
    · refine ok_b1 (s_X7_tells M hM v5 (a1)) (fun M10 v9 w12 => ?_)
      have hM10 : IV A B M10 := w12.1
      exact ok_some ⟨hM10, trivial⟩
theorem s_X7_best {A : Nat → Nat → Nat → Prop} {B : SS} (M : SS) (hM : IV A B M) (p0 : Int32) (p1 : Int32) (a1 : A 26 0 9) : ok (f_X7_best M p0 p1) (fun r => IV A B r.1 ∧ True) := by
  unfold f_X7_best
  refine ok_b0 (s_X7_isMember M hM p0) (fun v1 w1 => ?_)
  have w2 : (0 : Int32) ≤ v1 ∧ v1 ≤ (1 : Int32) ∧ ((v1 = 0 ∧ (p0 < 0 ∨ (M.1 26 0 4) ≤ p0)) ∨ (v1 = 1 ∧ 0 ≤ p0 ∧ p0 < (M.1 26 0 4))) := w1
  refine ok_ite (fun q3 => ?_) (fun q3 => ?_)
  · refine ok_b1 (s_X7_fails M hM (1 : Int32) (show (1 : Int32) ≤ (1 : Int32) ∧ (1 : Int32) ≤ (3 : Int32) from ⟨by decide, by decide⟩) (a1)) (fun M5 v4 w4 => ?_)
    have hM5 : IV A B M5 := w4.1
    have w5 : (0 : Int32) ≤ v4 ∧ v4 ≤ (0 : Int32) := w4.2
    exact ok_some ⟨hM5, trivial⟩
  · refine ok_b0 (s_X7_isKata M hM p1) (fun v7 w6 => ?_)
    have w7 : (0 : Int32) ≤ v7 ∧ v7 ≤ (1 : Int32) ∧ ((v7 = 0 ∧ (p1 < 0 ∨ (M.1 26 0 3) ≤ p1)) ∨ (v7 = 1 ∧ 0 ≤ p1 ∧ p1 < (M.1 26 0 3))) := w6
    refine ok_ite (fun q8 => ?_) (fun q8 => ?_)
    · refine ok_b1 (s_X7_fails M hM (1 : Int32) (show (1 : Int32) ≤ (1 : Int32) ∧ (1 : Int32) ≤ (3 : Int32) from ⟨by decide, by decide⟩) (a1)) (fun M20 v19 w9 => ?_)
      have hM20 : IV A B M20 := w9.1
      have w10 : (0 : Int32) ≤ v19 ∧ v19 ≤ (0 : Int32) := w9.2
      exact ok_some ⟨hM20, trivial⟩
    · have pf11 : (0 : Int32) ≤ p1 ∧ p1 ≤ (7 : Int32) := by
        have c12 : (0 : Int32) ≤ (M.1 26 0 3) ∧ (M.1 26 0 3) ≤ (8 : Int32) := hM.at1 26 0 3
        exact ⟨by grind, by grind⟩
      refine ok_b0 (s_X7_bestOf M hM p0 p1 pf11) (fun v10 w13 => ?_)
      have w14 : ((-1) : Int32) ≤ v10 ∧ v10 ≤ (39 : Int32) := w13
      refine ok_ite (fun q15 => ?_) (fun q15 => ?_)
      · refine ok_b1 (s_X7_fails M hM (2 : Int32) (show (1 : Int32) ≤ (2 : Int32) ∧ (2 : Int32) ≤ (3 : Int32) from ⟨by decide, by decide⟩) (a1)) (fun M17 v16 w16 => ?_)
        have hM17 : IV A B M17 := w16.1
        have w17 : (0 : Int32) ≤ v16 ∧ v16 ≤ (0 : Int32) := w16.2
        exact ok_some ⟨hM17, trivial⟩
      · refine ok_b1 (s_X7_tells M hM v10 (a1)) (fun M14 v13 w18 => ?_)
        have hM14 : IV A B M14 := w18.1
        exact ok_some ⟨hM14, trivial⟩
theorem s_X7_points {A : Nat → Nat → Nat → Prop} {B : SS} (M : SS) (hM : IV A B M) (p0 : Int32) (a1 : A 26 0 9) : ok (f_X7_points M p0) (fun r => IV A B r.1 ∧ vf_n32 r.2) := by
  unfold f_X7_points
  refine ok_b0 (s_X7_isMember M hM p0) (fun v1 w1 => ?_)
  have w2 : (0 : Int32) ≤ v1 ∧ v1 ≤ (1 : Int32) ∧ ((v1 = 0 ∧ (p0 < 0 ∨ (M.1 26 0 4) ≤ p0)) ∨ (v1 = 1 ∧ 0 ≤ p0 ∧ p0 < (M.1 26 0 4))) := w1
  refine ok_ite (fun q3 => ?_) (fun q3 => ?_)
  · unfold f_X7_points_J14
    refine ok_lq (fun M5 eq_4 => ?_)
    have hM5 : IV A B M5 := by rw [eq_4]; exact hM.w1 rfl (a1) (show (0 : Int32) ≤ (1 : Int32) ∧ (1 : Int32) ≤ (3 : Int32) from ⟨by decide, by decide⟩)
    refine ok_ite (fun q5 => ?_) (fun q5 => ?_)
    · have c6 : (M5.1 26 0 9) = (1 : Int32) := by rw [eq_4]; exact up_s
      exfalso
      grind
    · have c7 : (M5.1 26 0 9) = (1 : Int32) := by rw [eq_4]; exact up_s
      exact ok_some ⟨hM5, nn_f0⟩
  · unfold f_X7_points_J14
    refine ok_lq (fun M5 eq_8 => ?_)
    have hM5 : IV A B M5 := by rw [eq_8]; exact hM.w1 rfl (a1) (show (0 : Int32) ≤ (0 : Int32) ∧ (0 : Int32) ≤ (3 : Int32) from ⟨by decide, by decide⟩)
    refine ok_ite (fun q9 => ?_) (fun q9 => ?_)
    · have c10 : (M5.1 26 0 9) = (0 : Int32) := by rw [eq_8]; exact up_s
      refine ok_b0 (s_X7_pointsOf M5 hM5 p0) (fun v7 w11 => ?_)
      have nv7 : vf_n32 v7 := w11
      exact ok_some ⟨hM5, nv7⟩
    · have c12 : (M5.1 26 0 9) = (0 : Int32) := by rw [eq_8]; exact up_s
      exfalso
      grind
theorem s_X7_belt {A : Nat → Nat → Nat → Prop} {B : SS} (M : SS) (hM : IV A B M) (p0 : Int32) (a1 : A 26 0 9) : ok (f_X7_belt M p0) (fun r => IV A B r.1 ∧ True) := by
  unfold f_X7_belt
  refine ok_b0 (s_X7_isMember M hM p0) (fun v1 w1 => ?_)
  have w2 : (0 : Int32) ≤ v1 ∧ v1 ≤ (1 : Int32) ∧ ((v1 = 0 ∧ (p0 < 0 ∨ (M.1 26 0 4) ≤ p0)) ∨ (v1 = 1 ∧ 0 ≤ p0 ∧ p0 < (M.1 26 0 4))) := w1
  refine ok_ite (fun q3 => ?_) (fun q3 => ?_)
  · refine ok_b1 (s_X7_fails M hM (1 : Int32) (show (1 : Int32) ≤ (1 : Int32) ∧ (1 : Int32) ≤ (3 : Int32) from ⟨by decide, by decide⟩) (a1)) (fun M5 v4 w4 => ?_)
    have hM5 : IV A B M5 := w4.1
    have w5 : (0 : Int32) ≤ v4 ∧ v4 ≤ (0 : Int32) := w4.2
    exact ok_some ⟨hM5, trivial⟩
  · have pf6 : (0 : Int32) ≤ p0 ∧ p0 ≤ (9 : Int32) := by
      have c7 : (0 : Int32) ≤ (M.1 26 0 4) ∧ (M.1 26 0 4) ≤ (10 : Int32) := hM.at1 26 0 4
      exact ⟨by grind, by grind⟩
    refine ok_b0 (s_X7_beltOf M hM p0 pf6) (fun v7 w8 => ?_)
    have w9 : (0 : Int32) ≤ v7 ∧ v7 ≤ (5 : Int32) := w8
    refine ok_b1 (s_X7_tells M hM v7 (a1)) (fun M10 v9 w10 => ?_)
    have hM10 : IV A B M10 := w10.1
    exact ok_some ⟨hM10, trivial⟩
theorem s_X7_honour {A : Nat → Nat → Nat → Prop} {B : SS} (M : SS) (hM : IV A B M) (p0 : Int32) (a1 : A 26 0 9) : ok (f_X7_honour M p0) (fun r => IV A B r.1 ∧ True) := by
  unfold f_X7_honour
  refine ok_b0 (s_X7_isMember M hM p0) (fun v1 w1 => ?_)
  have w2 : (0 : Int32) ≤ v1 ∧ v1 ≤ (1 : Int32) ∧ ((v1 = 0 ∧ (p0 < 0 ∨ (M.1 26 0 4) ≤ p0)) ∨ (v1 = 1 ∧ 0 ≤ p0 ∧ p0 < (M.1 26 0 4))) := w1
  refine ok_ite (fun q3 => ?_) (fun q3 => ?_)
  · refine ok_b1 (s_X7_fails M hM (1 : Int32) (show (1 : Int32) ≤ (1 : Int32) ∧ (1 : Int32) ≤ (3 : Int32) from ⟨by decide, by decide⟩) (a1)) (fun M5 v4 w4 => ?_)
    have hM5 : IV A B M5 := w4.1
    have w5 : (0 : Int32) ≤ v4 ∧ v4 ≤ (0 : Int32) := w4.2
    exact ok_some ⟨hM5, trivial⟩
  · refine ok_gd ?_ (fun g6 => ?_)
    · have c7 : (0 : Int32) ≤ (M.1 26 0 4) ∧ (M.1 26 0 4) ≤ (10 : Int32) := hM.at1 26 0 4
      exact vp_of (by decide) (by grind) (show p0 < (10 : Int32) by grind)
    have g6 := vp_to (by decide) g6
    have g6 : (0 : Int32) ≤ p0 ∧ p0 < (10 : Int32) := g6
    refine ok_b1 (s_X7_tells M hM (M.1 51 0 (p0).toNatClampNeg) (a1)) (fun M9 v8 w8 => ?_)
    have hM9 : IV A B M9 := w8.1
    exact ok_some ⟨hM9, trivial⟩
theorem s_X7_isAheadOf {A : Nat → Nat → Nat → Prop} {B : SS} (M : SS) (hM : IV A B M) (p0 : Int32) (ip0 : (0 : Int32) ≤ p0 ∧ p0 ≤ (9 : Int32)) (p1 : Int32) (ip1 : (0 : Int32) ≤ p1 ∧ p1 ≤ (9 : Int32)) : ok (f_X7_isAheadOf M p0 p1) (fun r => (0 : Int32) ≤ r ∧ r ≤ (1 : Int32)) := by
  unfold f_X7_isAheadOf
  have pf1 : (0 : Int32) ≤ p0 ∧ p0 ≤ (9 : Int32) := by
    exact ⟨by grind, by grind⟩
  refine ok_b0 (s_X7_beltOf M hM p0 pf1) (fun v1 w2 => ?_)
  have w3 : (0 : Int32) ≤ v1 ∧ v1 ≤ (5 : Int32) := w2
  have pf4 : (0 : Int32) ≤ p1 ∧ p1 ≤ (9 : Int32) := by
    exact ⟨by grind, by grind⟩
  refine ok_b0 (s_X7_beltOf M hM p1 pf4) (fun v3 w5 => ?_)
  have w6 : (0 : Int32) ≤ v3 ∧ v3 ≤ (5 : Int32) := w5
  refine ok_ite (fun q7 => ?_) (fun q7 => ?_)
  · refine ok_b0 (s_X7_pointsOf M hM p0) (fun v6 w8 => ?_)
    have nv6 : vf_n32 v6 := w8
    refine ok_b0 (s_X7_pointsOf M hM p1) (fun v8 w9 => ?_)
    have nv8 : vf_n32 v8 := w9
    refine ok_ite (fun q10 => ?_) (fun q10 => ?_)
    · have pf11 : (0 : Int32) ≤ (1 : Int32) ∧ (1 : Int32) ≤ (1 : Int32) := by
        exact ⟨by grind, by grind⟩
      exact ok_some pf11
    · refine ok_b0 (s_X7_pointsOf M hM p0) (fun v11 w12 => ?_)
      have nv11 : vf_n32 v11 := w12
      refine ok_b0 (s_X7_pointsOf M hM p1) (fun v13 w13 => ?_)
      have nv13 : vf_n32 v13 := w13
      refine ok_ite (fun q14 => ?_) (fun q14 => ?_)
      · refine ok_ite (fun q15 => ?_) (fun q15 => ?_)
        · have pf16 : (0 : Int32) ≤ (0 : Int32) ∧ (0 : Int32) ≤ (1 : Int32) := by
            exact ⟨by grind, by grind⟩
          exact ok_some pf16
        · have pf17 : (0 : Int32) ≤ (1 : Int32) ∧ (1 : Int32) ≤ (1 : Int32) := by
            exact ⟨by grind, by grind⟩
          exact ok_some pf17
      · have pf18 : (0 : Int32) ≤ (0 : Int32) ∧ (0 : Int32) ≤ (1 : Int32) := by
          exact ⟨by grind, by grind⟩
        exact ok_some pf18
  · have pf19 : (0 : Int32) ≤ p0 ∧ p0 ≤ (9 : Int32) := by
      exact ⟨by grind, by grind⟩
    refine ok_b0 (s_X7_beltOf M hM p0 pf19) (fun v17 w20 => ?_)
    have w21 : (0 : Int32) ≤ v17 ∧ v17 ≤ (5 : Int32) := w20
    have pf22 : (0 : Int32) ≤ p1 ∧ p1 ≤ (9 : Int32) := by
      exact ⟨by grind, by grind⟩
    refine ok_b0 (s_X7_beltOf M hM p1 pf22) (fun v19 w23 => ?_)
    have w24 : (0 : Int32) ≤ v19 ∧ v19 ≤ (5 : Int32) := w23
    refine ok_ite (fun q25 => ?_) (fun q25 => ?_)
    · have pf26 : (0 : Int32) ≤ (0 : Int32) ∧ (0 : Int32) ≤ (1 : Int32) := by
        exact ⟨by grind, by grind⟩
      exact ok_some pf26
    · have pf27 : (0 : Int32) ≤ (1 : Int32) ∧ (1 : Int32) ≤ (1 : Int32) := by
        exact ⟨by grind, by grind⟩
      exact ok_some pf27
theorem s_X7_ranked_L15 {A : Nat → Nat → Nat → Prop} {B : SS} (M : SS) (hM : IV A B M) (v2 : Int32) (iv2 : (0 : Int32) ≤ v2 ∧ v2 ≤ (9 : Int32)) : ∀ (n : Nat), ∀ (v9 : Int32) (v10 : Int32) (k7 : (Int32 → Option (SS × Int32))), (FU v9 10 n) → ((0 : Int32) ≤ v9 ∧ v9 ≤ (10 : Int32)) → (∀ (k_0 : Int32), ok (k7 k_0) (fun r => IV A B r.1 ∧ True)) → ok (f_X7_ranked_L15 M v2 n v9 v10 k7) (fun r => IV A B r.1 ∧ True) := by
  intro n
  induction n with
  | zero =>
    intro v9 v10 k7 hF iv9 hk
    exact (FU.stop hF (show v9 ≤ (10 : Int32) by grind)).elim
  | succ n ih =>
    intro v9 v10 k7 hF iv9 hk
    rw [f_X7_ranked_L15]
    refine ok_ite (fun q1 => ?_) (fun q1 => ?_)
    · exact hk v10
    · refine ok_ite (fun q2 => ?_) (fun q2 => ?_)
      · refine ok_lq (fun v17 eq_3 => ?_)
        have pf4 : FU (v9 + (1 : Int32)) 10 n := by
          have c5 : (0 : Int32) ≤ (M.1 26 0 4) ∧ (M.1 26 0 4) ≤ (10 : Int32) := hM.at1 26 0 4
          exact FU.step hF (by grind)
        have pf6 : (0 : Int32) ≤ (v9 + (1 : Int32)) ∧ (v9 + (1 : Int32)) ≤ (10 : Int32) := by
          have c7 : (0 : Int32) ≤ (M.1 26 0 4) ∧ (M.1 26 0 4) ≤ (10 : Int32) := hM.at1 26 0 4
          exact ⟨by grind, by grind⟩
        exact ih (v9 + (1 : Int32)) v17 k7 pf4 pf6 hk
      · have pf8 : (0 : Int32) ≤ v9 ∧ v9 ≤ (9 : Int32) := by
          have c9 : (0 : Int32) ≤ (M.1 26 0 4) ∧ (M.1 26 0 4) ≤ (10 : Int32) := hM.at1 26 0 4
          exact ⟨by grind, by grind⟩
        have pf10 : (0 : Int32) ≤ v2 ∧ v2 ≤ (9 : Int32) := by
          have c11 : (0 : Int32) ≤ (M.1 26 0 4) ∧ (M.1 26 0 4) ≤ (10 : Int32) := hM.at1 26 0 4
          exact ⟨by grind, by grind⟩
        refine ok_b0 (s_X7_isAheadOf M hM v9 pf8 v2 pf10) (fun v18 w12 => ?_)
        have w13 : (0 : Int32) ≤ v18 ∧ v18 ≤ (1 : Int32) := w12
        refine ok_ite (fun q14 => ?_) (fun q14 => ?_)
        · refine ok_lq (fun v21 eq_15 => ?_)
          have pf16 : FU (v9 + (1 : Int32)) 10 n := by
            have c17 : (0 : Int32) ≤ (M.1 26 0 4) ∧ (M.1 26 0 4) ≤ (10 : Int32) := hM.at1 26 0 4
            exact FU.step hF (by grind)
          have pf18 : (0 : Int32) ≤ (v9 + (1 : Int32)) ∧ (v9 + (1 : Int32)) ≤ (10 : Int32) := by
            have c19 : (0 : Int32) ≤ (M.1 26 0 4) ∧ (M.1 26 0 4) ≤ (10 : Int32) := hM.at1 26 0 4
            exact ⟨by grind, by grind⟩
          exact ih (v9 + (1 : Int32)) v21 k7 pf16 pf18 hk
        · refine ok_lq (fun v22 eq_20 => ?_)
          have pf21 : FU (v9 + (1 : Int32)) 10 n := by
            have c22 : (0 : Int32) ≤ (M.1 26 0 4) ∧ (M.1 26 0 4) ≤ (10 : Int32) := hM.at1 26 0 4
            exact FU.step hF (by grind)
          have pf23 : (0 : Int32) ≤ (v9 + (1 : Int32)) ∧ (v9 + (1 : Int32)) ≤ (10 : Int32) := by
            have c24 : (0 : Int32) ≤ (M.1 26 0 4) ∧ (M.1 26 0 4) ≤ (10 : Int32) := hM.at1 26 0 4
            exact ⟨by grind, by grind⟩
          exact ih (v9 + (1 : Int32)) v22 k7 pf21 pf23 hk
theorem s_X7_ranked_L2 {A : Nat → Nat → Nat → Prop} {B : SS} (M : SS) (hM : IV A B M) (p0 : Int32) (a1 : A 26 0 9) : ∀ (n : Nat), ∀ (v2 : Int32) (k1 : (Unit → Option (SS × Int32))), (FU v2 10 n) → ((0 : Int32) ≤ v2 ∧ v2 ≤ (10 : Int32)) → (∀ (k_0 : Unit), ok (k1 k_0) (fun r => IV A B r.1 ∧ True)) → ok (f_X7_ranked_L2 M p0 n v2 k1) (fun r => IV A B r.1 ∧ True) := by
  intro n
  induction n with
  | zero =>
    intro v2 k1 hF iv2 hk
    exact (FU.stop hF (show v2 ≤ (10 : Int32) by grind)).elim
  | succ n ih =>
    intro v2 k1 hF iv2 hk
    rw [f_X7_ranked_L2]
    refine ok_ite (fun q1 => ?_) (fun q1 => ?_)
    · exact hk ()
    · have pf2 : (0 : Int32) ≤ v2 ∧ v2 ≤ (9 : Int32) := by
        have c3 : (0 : Int32) ≤ (M.1 26 0 4) ∧ (M.1 26 0 4) ≤ (10 : Int32) := hM.at1 26 0 4
        exact ⟨by grind, by grind⟩
      have pf4 : FU (0 : Int32) 10 1000 := by
        exact FU.start (by grind) (by decide)
      refine s_X7_ranked_L15 M hM v2 pf2 1000 (0 : Int32) (0 : Int32) _ pf4 (show (0 : Int32) ≤ (0 : Int32) ∧ (0 : Int32) ≤ (10 : Int32) from ⟨by decide, by decide⟩) (fun v8 => ?_)
      refine ok_ite (fun q5 => ?_) (fun q5 => ?_)
      · refine ok_b1 (s_X7_tells M hM v2 (a1)) (fun M13 v12 w6 => ?_)
        have hM13 : IV A B M13 := w6.1
        exact ok_some ⟨hM13, trivial⟩
      · have pf7 : FU (v2 + (1 : Int32)) 10 n := by
          have c8 : (0 : Int32) ≤ (M.1 26 0 4) ∧ (M.1 26 0 4) ≤ (10 : Int32) := hM.at1 26 0 4
          exact FU.step hF (by grind)
        have pf9 : (0 : Int32) ≤ (v2 + (1 : Int32)) ∧ (v2 + (1 : Int32)) ≤ (10 : Int32) := by
          have c10 : (0 : Int32) ≤ (M.1 26 0 4) ∧ (M.1 26 0 4) ≤ (10 : Int32) := hM.at1 26 0 4
          exact ⟨by grind, by grind⟩
        exact ih (v2 + (1 : Int32)) k1 pf7 pf9 hk
theorem s_X7_ranked {A : Nat → Nat → Nat → Prop} {B : SS} (M : SS) (hM : IV A B M) (p0 : Int32) (a1 : A 26 0 9) : ok (f_X7_ranked M p0) (fun r => IV A B r.1 ∧ True) := by
  unfold f_X7_ranked
  have pf1 : FU (0 : Int32) 10 1000 := by
    exact FU.start (by grind) (by decide)
  refine s_X7_ranked_L2 M hM p0 (a1) 1000 (0 : Int32) _ pf1 (show (0 : Int32) ≤ (0 : Int32) ∧ (0 : Int32) ≤ (10 : Int32) from ⟨by decide, by decide⟩) (fun _ => ?_)
  refine ok_b1 (s_X7_fails M hM (1 : Int32) (show (1 : Int32) ≤ (1 : Int32) ∧ (1 : Int32) ≤ (3 : Int32) from ⟨by decide, by decide⟩) (a1)) (fun M4 v3 w2 => ?_)
  have hM4 : IV A B M4 := w2.1
  have w3 : (0 : Int32) ≤ v3 ∧ v3 ≤ (0 : Int32) := w2.2
  exact ok_some ⟨hM4, trivial⟩
theorem s_X7_openCount_L4 {A : Nat → Nat → Nat → Prop} {B : SS} (M : SS) (hM : IV A B M) : ∀ (n : Nat), ∀ (v3 : Int32) (v4 : Int32) (k1 : (Int32 → Option (Int32))), (FU v3 40 n) → ((0 : Int32) ≤ v3 ∧ v3 ≤ (40 : Int32)) → (∀ (k_0 : Int32), ok (k1 k_0) (fun r => True)) → ok (f_X7_openCount_L4 M n v3 v4 k1) (fun r => True) := by
  intro n
  induction n with
  | zero =>
    intro v3 v4 k1 hF iv3 hk
    exact (FU.stop hF (show v3 ≤ (40 : Int32) by grind)).elim
  | succ n ih =>
    intro v3 v4 k1 hF iv3 hk
    rw [f_X7_openCount_L4]
    refine ok_ite (fun q1 => ?_) (fun q1 => ?_)
    · exact hk v4
    · refine ok_gd ?_ (fun g2 => ?_)
      · have c3 : (0 : Int32) ≤ (M.1 26 0 5) ∧ (M.1 26 0 5) ≤ (40 : Int32) := hM.at1 26 0 5
        exact vp_of (by decide) (by grind) (show v3 < (40 : Int32) by grind)
      have g2 := vp_to (by decide) g2
      have g2 : (0 : Int32) ≤ v3 ∧ v3 < (40 : Int32) := g2
      refine ok_ite (fun q4 => ?_) (fun q4 => ?_)
      · refine ok_lq (fun v9 eq_5 => ?_)
        have pf6 : FU (v3 + (1 : Int32)) 40 n := by
          have c7 : (0 : Int32) ≤ (M.1 26 0 5) ∧ (M.1 26 0 5) ≤ (40 : Int32) := hM.at1 26 0 5
          have c8 : (0 : Int32) ≤ (M.1 42 0 (v3).toNatClampNeg) ∧ (M.1 42 0 (v3).toNatClampNeg) ≤ (65535 : Int32) := hM.at1 42 0 ((v3).toNatClampNeg)
          exact FU.step hF (by grind)
        have pf9 : (0 : Int32) ≤ (v3 + (1 : Int32)) ∧ (v3 + (1 : Int32)) ≤ (40 : Int32) := by
          have c10 : (0 : Int32) ≤ (M.1 26 0 5) ∧ (M.1 26 0 5) ≤ (40 : Int32) := hM.at1 26 0 5
          have c11 : (0 : Int32) ≤ (M.1 42 0 (v3).toNatClampNeg) ∧ (M.1 42 0 (v3).toNatClampNeg) ≤ (65535 : Int32) := hM.at1 42 0 ((v3).toNatClampNeg)
          exact ⟨by grind, by grind⟩
        exact ih (v3 + (1 : Int32)) v9 k1 pf6 pf9 hk
      · refine ok_lq (fun v8 eq_12 => ?_)
        have pf13 : FU (v3 + (1 : Int32)) 40 n := by
          have c14 : (0 : Int32) ≤ (M.1 26 0 5) ∧ (M.1 26 0 5) ≤ (40 : Int32) := hM.at1 26 0 5
          have c15 : (0 : Int32) ≤ (M.1 42 0 (v3).toNatClampNeg) ∧ (M.1 42 0 (v3).toNatClampNeg) ≤ (65535 : Int32) := hM.at1 42 0 ((v3).toNatClampNeg)
          exact FU.step hF (by grind)
        have pf16 : (0 : Int32) ≤ (v3 + (1 : Int32)) ∧ (v3 + (1 : Int32)) ≤ (40 : Int32) := by
          have c17 : (0 : Int32) ≤ (M.1 26 0 5) ∧ (M.1 26 0 5) ≤ (40 : Int32) := hM.at1 26 0 5
          have c18 : (0 : Int32) ≤ (M.1 42 0 (v3).toNatClampNeg) ∧ (M.1 42 0 (v3).toNatClampNeg) ≤ (65535 : Int32) := hM.at1 42 0 ((v3).toNatClampNeg)
          exact ⟨by grind, by grind⟩
        exact ih (v3 + (1 : Int32)) v8 k1 pf13 pf16 hk
theorem s_X7_openCount {A : Nat → Nat → Nat → Prop} {B : SS} (M : SS) (hM : IV A B M) : ok (f_X7_openCount M) (fun r => True) := by
  unfold f_X7_openCount
  have pf1 : FU (0 : Int32) 40 1000 := by
    exact FU.start (by grind) (by decide)
  refine s_X7_openCount_L4 M hM 1000 (0 : Int32) (0 : Int32) _ pf1 (show (0 : Int32) ≤ (0 : Int32) ∧ (0 : Int32) ≤ (40 : Int32) from ⟨by decide, by decide⟩) (fun v2 => ?_)
  exact ok_some trivial
theorem s_X7_challenge {A : Nat → Nat → Nat → Prop} {B : SS} (M : SS) (hM : IV A B M) (p0 : Int32) (p1 : Int32) (a1 : A 26 0 8) (a2 : A 26 0 9) (a3 : A 42 0 (p1).toNatClampNeg) (a4 : A 48 0 (p1).toNatClampNeg) (a5 : A 49 0 (p1).toNatClampNeg) (a6 : A 50 0 (p1).toNatClampNeg) (a7 : A 51 0 (p0).toNatClampNeg) : ok (f_X7_challenge M p0 p1) (fun r => IV A B r.1 ∧ True) := by
  unfold f_X7_challenge
  refine ok_b0 (s_X7_isMember M hM p0) (fun v1 w1 => ?_)
  have w2 : (0 : Int32) ≤ v1 ∧ v1 ≤ (1 : Int32) ∧ ((v1 = 0 ∧ (p0 < 0 ∨ (M.1 26 0 4) ≤ p0)) ∨ (v1 = 1 ∧ 0 ≤ p0 ∧ p0 < (M.1 26 0 4))) := w1
  refine ok_ite (fun q3 => ?_) (fun q3 => ?_)
  · refine ok_b1 (s_X7_fails M hM (1 : Int32) (show (1 : Int32) ≤ (1 : Int32) ∧ (1 : Int32) ≤ (3 : Int32) from ⟨by decide, by decide⟩) (a2)) (fun M5 v4 w4 => ?_)
    have hM5 : IV A B M5 := w4.1
    have w5 : (0 : Int32) ≤ v4 ∧ v4 ≤ (0 : Int32) := w4.2
    exact ok_some ⟨hM5, trivial⟩
  · refine ok_b0 (s_X7_isWork M hM p1) (fun v7 w6 => ?_)
    have w7 : (0 : Int32) ≤ v7 ∧ v7 ≤ (1 : Int32) ∧ ((v7 = 0 ∧ (p1 < 0 ∨ (M.1 26 0 5) ≤ p1)) ∨ (v7 = 1 ∧ 0 ≤ p1 ∧ p1 < (M.1 26 0 5))) := w6
    refine ok_ite (fun q8 => ?_) (fun q8 => ?_)
    · refine ok_b1 (s_X7_fails M hM (1 : Int32) (show (1 : Int32) ≤ (1 : Int32) ∧ (1 : Int32) ≤ (3 : Int32) from ⟨by decide, by decide⟩) (a2)) (fun M49 v48 w9 => ?_)
      have hM49 : IV A B M49 := w9.1
      have w10 : (0 : Int32) ≤ v48 ∧ v48 ≤ (0 : Int32) := w9.2
      exact ok_some ⟨hM49, trivial⟩
    · refine ok_gd ?_ (fun g11 => ?_)
      · have c12 : (0 : Int32) ≤ (M.1 26 0 5) ∧ (M.1 26 0 5) ≤ (40 : Int32) := hM.at1 26 0 5
        exact vp_of (by decide) (by grind) (show p1 < (40 : Int32) by grind)
      have g11 := vp_to (by decide) g11
      have g11 : (0 : Int32) ≤ p1 ∧ p1 < (40 : Int32) := g11
      refine ok_ite (fun q13 => ?_) (fun q13 => ?_)
      · refine ok_b1 (s_X7_fails M hM (2 : Int32) (show (1 : Int32) ≤ (2 : Int32) ∧ (2 : Int32) ≤ (3 : Int32) from ⟨by decide, by decide⟩) (a2)) (fun M13 v12 w14 => ?_)
        have hM13 : IV A B M13 := w14.1
        have w15 : (0 : Int32) ≤ v12 ∧ v12 ≤ (0 : Int32) := w14.2
        exact ok_some ⟨hM13, trivial⟩
      · refine ok_gd ?_ (fun g16 => ?_)
        · have c17 : (0 : Int32) ≤ (M.1 26 0 5) ∧ (M.1 26 0 5) ≤ (40 : Int32) := hM.at1 26 0 5
          have c18 : (0 : Int32) ≤ (M.1 39 0 (p1).toNatClampNeg) ∧ (M.1 39 0 (p1).toNatClampNeg) ≤ (9 : Int32) := hM.at1 39 0 ((p1).toNatClampNeg)
          have c19 : (0 : Int32) ≤ (M.1 26 0 4) ∧ (M.1 26 0 4) ≤ (10 : Int32) := hM.at1 26 0 4
          exact vp_of (by decide) (by grind) (show p1 < (40 : Int32) by grind)
        have g16 := vp_to (by decide) g16
        have g16 : (0 : Int32) ≤ p1 ∧ p1 < (40 : Int32) := g16
        refine ok_ite (fun q20 => ?_) (fun q20 => ?_)
        · refine ok_gd ?_ (fun g21 => ?_)
          · have c22 : (0 : Int32) ≤ (M.1 26 0 4) ∧ (M.1 26 0 4) ≤ (10 : Int32) := hM.at1 26 0 4
            have c23 : (0 : Int32) ≤ (M.1 39 0 (p1).toNatClampNeg) ∧ (M.1 39 0 (p1).toNatClampNeg) ≤ (9 : Int32) := hM.at1 39 0 ((p1).toNatClampNeg)
            have c24 : (0 : Int32) ≤ (M.1 26 0 5) ∧ (M.1 26 0 5) ≤ (40 : Int32) := hM.at1 26 0 5
            have c25 : (0 : Int32) ≤ (M.1 42 0 (p1).toNatClampNeg) ∧ (M.1 42 0 (p1).toNatClampNeg) ≤ (65535 : Int32) := hM.at1 42 0 ((p1).toNatClampNeg)
            exact vp_of (by decide) (by grind) (show p0 < (10 : Int32) by grind)
          have g21 := vp_to (by decide) g21
          have g21 : (0 : Int32) ≤ p0 ∧ p0 < (10 : Int32) := g21
          refine ok_ite (fun q26 => ?_) (fun q26 => ?_)
          · refine ok_b0 (s_X7_openCount M hM) (fun v22 w27 => ?_)
            refine ok_ite (fun q28 => ?_) (fun q28 => ?_)
            · refine ok_b1 (s_X7_fails M hM (3 : Int32) (show (1 : Int32) ≤ (3 : Int32) ∧ (3 : Int32) ≤ (3 : Int32) from ⟨by decide, by decide⟩) (a2)) (fun M43 v42 w29 => ?_)
              have hM43 : IV A B M43 := w29.1
              have w30 : (0 : Int32) ≤ v42 ∧ v42 ≤ (0 : Int32) := w29.2
              exact ok_some ⟨hM43, trivial⟩
            · refine ok_gd ?_ (fun g31 => ?_)
              · have c32 : (0 : Int32) ≤ (M.1 26 0 4) ∧ (M.1 26 0 4) ≤ (10 : Int32) := hM.at1 26 0 4
                have c33 : (0 : Int32) ≤ (M.1 39 0 (p1).toNatClampNeg) ∧ (M.1 39 0 (p1).toNatClampNeg) ≤ (9 : Int32) := hM.at1 39 0 ((p1).toNatClampNeg)
                have c34 : (0 : Int32) ≤ (M.1 26 0 5) ∧ (M.1 26 0 5) ≤ (40 : Int32) := hM.at1 26 0 5
                have c35 : (0 : Int32) ≤ (M.1 42 0 (p1).toNatClampNeg) ∧ (M.1 42 0 (p1).toNatClampNeg) ≤ (65535 : Int32) := hM.at1 42 0 ((p1).toNatClampNeg)
                exact vp_of (by decide) (by grind) (show p0 < (10 : Int32) by grind)
              have g31 := vp_to (by decide) g31
              have g31 : (0 : Int32) ≤ p0 ∧ p0 < (10 : Int32) := g31
              refine ok_gd ?_ (fun g36 => ?_)
              · have c37 : (0 : Int32) ≤ (M.1 26 0 4) ∧ (M.1 26 0 4) ≤ (10 : Int32) := hM.at1 26 0 4
                have c38 : (0 : Int32) ≤ (M.1 39 0 (p1).toNatClampNeg) ∧ (M.1 39 0 (p1).toNatClampNeg) ≤ (9 : Int32) := hM.at1 39 0 ((p1).toNatClampNeg)
                have c39 : (0 : Int32) ≤ (M.1 26 0 5) ∧ (M.1 26 0 5) ≤ (40 : Int32) := hM.at1 26 0 5
                have c40 : (0 : Int32) ≤ (M.1 42 0 (p1).toNatClampNeg) ∧ (M.1 42 0 (p1).toNatClampNeg) ≤ (65535 : Int32) := hM.at1 42 0 ((p1).toNatClampNeg)
                exact vp_of (by decide) (by grind) (show p0 < (10 : Int32) by grind)
              have g36 := vp_to (by decide) g36
              have g36 : (0 : Int32) ≤ p0 ∧ p0 < (10 : Int32) := g36
              refine ok_lq (fun M27 eq_41 => ?_)
              have hM27 : IV A B M27 := by rw [eq_41]; exact hM.w1f rfl (a7) rfl
              refine ok_gd ?_ (fun g42 => ?_)
              · have c43 : (0 : Int32) ≤ (M.1 26 0 5) ∧ (M.1 26 0 5) ≤ (40 : Int32) := hM.at1 26 0 5
                have c44 : (0 : Int32) ≤ (M.1 39 0 (p1).toNatClampNeg) ∧ (M.1 39 0 (p1).toNatClampNeg) ≤ (9 : Int32) := hM.at1 39 0 ((p1).toNatClampNeg)
                have c45 : (0 : Int32) ≤ (M.1 42 0 (p1).toNatClampNeg) ∧ (M.1 42 0 (p1).toNatClampNeg) ≤ (65535 : Int32) := hM.at1 42 0 ((p1).toNatClampNeg)
                have c46 : (0 : Int32) ≤ (M.1 26 0 4) ∧ (M.1 26 0 4) ≤ (10 : Int32) := hM.at1 26 0 4
                exact vp_of (by decide) (by grind) (show p1 < (40 : Int32) by grind)
              have g42 := vp_to (by decide) g42
              have g42 : (0 : Int32) ≤ p1 ∧ p1 < (40 : Int32) := g42
              refine ok_lq (fun M29 eq_47 => ?_)
              have pf48 : (0 : Int32) ≤ (vp_nar .char (99 : Int32)) ∧ (vp_nar .char (99 : Int32)) ≤ (65535 : Int32) := by
                have c49 : (vp_nar .char (99 : Int32)) = (99 : Int32) := by decide
                exact ⟨by grind, by grind⟩
              have hM29 : IV A B M29 := by rw [eq_47]; exact hM27.w1 rfl (a3) pf48
              refine ok_gd ?_ (fun g50 => ?_)
              · have c51 : (0 : Int32) ≤ (M.1 26 0 5) ∧ (M.1 26 0 5) ≤ (40 : Int32) := hM.at1 26 0 5
                have c52 : (0 : Int32) ≤ (M.1 39 0 (p1).toNatClampNeg) ∧ (M.1 39 0 (p1).toNatClampNeg) ≤ (9 : Int32) := hM.at1 39 0 ((p1).toNatClampNeg)
                have c53 : (0 : Int32) ≤ (M.1 42 0 (p1).toNatClampNeg) ∧ (M.1 42 0 (p1).toNatClampNeg) ≤ (65535 : Int32) := hM.at1 42 0 ((p1).toNatClampNeg)
                have c54 : (0 : Int32) ≤ (M.1 26 0 4) ∧ (M.1 26 0 4) ≤ (10 : Int32) := hM.at1 26 0 4
                exact vp_of (by decide) (by grind) (show p1 < (40 : Int32) by grind)
              have g50 := vp_to (by decide) g50
              have g50 : (0 : Int32) ≤ p1 ∧ p1 < (40 : Int32) := g50
              refine ok_lq (fun M31 eq_55 => ?_)
              have pf56 : (0 : Int32) ≤ p0 ∧ p0 ≤ (9 : Int32) := by
                have c57 : (0 : Int32) ≤ (M.1 26 0 4) ∧ (M.1 26 0 4) ≤ (10 : Int32) := hM.at1 26 0 4
                have c58 : (0 : Int32) ≤ (M.1 39 0 (p1).toNatClampNeg) ∧ (M.1 39 0 (p1).toNatClampNeg) ≤ (9 : Int32) := hM.at1 39 0 ((p1).toNatClampNeg)
                have c59 : (0 : Int32) ≤ (M.1 26 0 5) ∧ (M.1 26 0 5) ≤ (40 : Int32) := hM.at1 26 0 5
                have c60 : (0 : Int32) ≤ (M.1 42 0 (p1).toNatClampNeg) ∧ (M.1 42 0 (p1).toNatClampNeg) ≤ (65535 : Int32) := hM.at1 42 0 ((p1).toNatClampNeg)
                exact ⟨by grind, by grind⟩
              have hM31 : IV A B M31 := by rw [eq_55]; exact hM29.w1 rfl (a4) pf56
              refine ok_gd ?_ (fun g61 => ?_)
              · have c62 : (0 : Int32) ≤ (M.1 26 0 5) ∧ (M.1 26 0 5) ≤ (40 : Int32) := hM.at1 26 0 5
                have c63 : (0 : Int32) ≤ (M.1 39 0 (p1).toNatClampNeg) ∧ (M.1 39 0 (p1).toNatClampNeg) ≤ (9 : Int32) := hM.at1 39 0 ((p1).toNatClampNeg)
                have c64 : (0 : Int32) ≤ (M.1 42 0 (p1).toNatClampNeg) ∧ (M.1 42 0 (p1).toNatClampNeg) ≤ (65535 : Int32) := hM.at1 42 0 ((p1).toNatClampNeg)
                have c65 : (0 : Int32) ≤ (M.1 26 0 4) ∧ (M.1 26 0 4) ≤ (10 : Int32) := hM.at1 26 0 4
                exact vp_of (by decide) (by grind) (show p1 < (40 : Int32) by grind)
              have g61 := vp_to (by decide) g61
              have g61 : (0 : Int32) ≤ p1 ∧ p1 < (40 : Int32) := g61
              refine ok_lq (fun M33 eq_66 => ?_)
              have hM33 : IV A B M33 := by rw [eq_66]; exact hM31.w1f rfl (a5) rfl
              refine ok_gd ?_ (fun g67 => ?_)
              · have c68 : (0 : Int32) ≤ (M.1 26 0 5) ∧ (M.1 26 0 5) ≤ (40 : Int32) := hM.at1 26 0 5
                have c69 : (0 : Int32) ≤ (M.1 39 0 (p1).toNatClampNeg) ∧ (M.1 39 0 (p1).toNatClampNeg) ≤ (9 : Int32) := hM.at1 39 0 ((p1).toNatClampNeg)
                have c70 : (0 : Int32) ≤ (M.1 42 0 (p1).toNatClampNeg) ∧ (M.1 42 0 (p1).toNatClampNeg) ≤ (65535 : Int32) := hM.at1 42 0 ((p1).toNatClampNeg)
                have c71 : (0 : Int32) ≤ (M.1 26 0 4) ∧ (M.1 26 0 4) ≤ (10 : Int32) := hM.at1 26 0 4
                exact vp_of (by decide) (by grind) (show p1 < (40 : Int32) by grind)
              have g67 := vp_to (by decide) g67
              have g67 : (0 : Int32) ≤ p1 ∧ p1 < (40 : Int32) := g67
              refine ok_lq (fun M35 eq_72 => ?_)
              have hM35 : IV A B M35 := by rw [eq_72]; exact hM33.w1f rfl (a6) rfl
              refine ok_lq (fun M36 eq_73 => ?_)
              have hM36 : IV A B M36 := by rw [eq_73]; exact hM35.w1f rfl (a1) rfl
              refine ok_b0 (s_X7_openCount M36 hM36) (fun v37 w74 => ?_)
              refine ok_b1 (s_X7_tells M36 hM36 v37 (a2)) (fun M40 v39 w75 => ?_)
              have hM40 : IV A B M40 := w75.1
              exact ok_some ⟨hM40, trivial⟩
          · refine ok_b1 (s_X7_fails M hM (2 : Int32) (show (1 : Int32) ≤ (2 : Int32) ∧ (2 : Int32) ≤ (3 : Int32) from ⟨by decide, by decide⟩) (a2)) (fun M46 v45 w76 => ?_)
            have hM46 : IV A B M46 := w76.1
            have w77 : (0 : Int32) ≤ v45 ∧ v45 ≤ (0 : Int32) := w76.2
            exact ok_some ⟨hM46, trivial⟩
        · refine ok_b1 (s_X7_fails M hM (2 : Int32) (show (1 : Int32) ≤ (2 : Int32) ∧ (2 : Int32) ≤ (3 : Int32) from ⟨by decide, by decide⟩) (a2)) (fun M18 v17 w78 => ?_)
          have hM18 : IV A B M18 := w78.1
          have w79 : (0 : Int32) ≤ v17 ∧ v17 ≤ (0 : Int32) := w78.2
          exact ok_some ⟨hM18, trivial⟩
theorem s_X7_closes {A : Nat → Nat → Nat → Prop} {B : SS} (M : SS) (hM : IV A B M) (p0 : Int32) (ip0 : (0 : Int32) ≤ p0 ∧ p0 ≤ (9 : Int32)) (p1 : Int32) (ip1 : (0 : Int32) ≤ p1 ∧ p1 ≤ (39 : Int32)) (a1 : A 26 0 38) (a2 : A 26 0 39) (a3 : A 26 0 40) (a4 : ∀ p, A 42 0 p) (a5 : ∀ p, A 43 0 p) (a6 : ∀ p, A 44 0 p) (a7 : ∀ p, A 45 0 p) (a8 : ∀ p, A 51 0 p) (a9 : ∀ p, A 53 0 p) (a10 : ∀ p, A 54 0 p) : ok (f_X7_closes M p0 p1) (fun r => IV A B r.1 ∧ (0 : Int32) ≤ r.2 ∧ r.2 ≤ (115 : Int32)) := by
  unfold f_X7_closes
  refine ok_gd ?_ (fun g1 => ?_)
  · exact vp_of (by decide) (by grind) (show p1 < (40 : Int32) by grind)
  have g1 := vp_to (by decide) g1
  have g1 : (0 : Int32) ≤ p1 ∧ p1 < (40 : Int32) := g1
  refine ok_lq (fun M2 eq_2 => ?_)
  have pf3 : (0 : Int32) ≤ (vp_nar .boolean (1 : Int32)) ∧ (vp_nar .boolean (1 : Int32)) ≤ (1 : Int32) := by
    have c4 : (vp_nar .boolean (1 : Int32)) = (1 : Int32) := by decide
    exact ⟨by grind, by grind⟩
  have hM2 : IV A B M2 := by rw [eq_2]; exact hM.w1 rfl (a5 ((p1).toNatClampNeg)) pf3
  refine ok_gd ?_ (fun g5 => ?_)
  · exact vp_of (by decide) (by grind) (show p1 < (40 : Int32) by grind)
  have g5 := vp_to (by decide) g5
  have g5 : (0 : Int32) ≤ p1 ∧ p1 < (40 : Int32) := g5
  have pf6 : (0 : Int32) ≤ p1 ∧ p1 ≤ (40 : Int32) := by
    exact ⟨by grind, by grind⟩
  have pf7 : (0 : Int32) ≤ (M2.1 40 0 (p1).toNatClampNeg) ∧ (M2.1 40 0 (p1).toNatClampNeg) ≤ (7 : Int32) := by
    have c8 : (vp_nar .boolean (1 : Int32)) = (1 : Int32) := by decide
    have c9 : (0 : Int32) ≤ (M2.1 40 0 (p1).toNatClampNeg) ∧ (M2.1 40 0 (p1).toNatClampNeg) ≤ (7 : Int32) := hM2.at1 40 0 ((p1).toNatClampNeg)
    have c10 : (M2.1 40 0 (p1).toNatClampNeg) = (M.1 40 0 (p1).toNatClampNeg) := by rw [eq_2]; exact up_k (by decide)
    have c11 : (0 : Int32) ≤ (M.1 40 0 (p1).toNatClampNeg) ∧ (M.1 40 0 (p1).toNatClampNeg) ≤ (7 : Int32) := hM.at1 40 0 ((p1).toNatClampNeg)
    exact ⟨by grind, by grind⟩
  refine ok_b1 (s_X7_passes M2 hM2 p1 pf6 (M2.1 40 0 (p1).toNatClampNeg) pf7 (a1) (a2) (a3) (fun p => a9 p) (fun p => a10 p)) (fun M5 v4 w12 => ?_)
  have hM5 : IV A B M5 := w12.1
  have w13 : (0 : Int32) ≤ v4 ∧ v4 ≤ (1 : Int32) := w12.2
  refine ok_ite (fun q14 => ?_) (fun q14 => ?_)
  · have pf15 : (0 : Int32) ≤ p1 ∧ p1 ≤ (39 : Int32) := by
      exact ⟨by grind, by grind⟩
    refine ok_b1 (s_X7_loses M5 hM5 p1 pf15 (98 : Int32) (show (98 : Int32) ≤ (98 : Int32) ∧ (98 : Int32) ≤ (112 : Int32) from ⟨by decide, by decide⟩) (a1) (a2) (a3) (a4 ((p1).toNatClampNeg)) (a5 ((p1).toNatClampNeg)) (fun p => a6 p) (fun p => a7 p) (fun p => a9 p) (fun p => a10 p)) (fun M9 v8 w16 => ?_)
    have hM9 : IV A B M9 := w16.1
    have w17 : ((M9.1 43 0 (p1).toNatClampNeg) = 0) := w16.2
    refine ok_gd ?_ (fun g18 => ?_)
    · have c19 : (0 : Int32) ≤ (M9.1 43 0 (p1).toNatClampNeg) ∧ (M9.1 43 0 (p1).toNatClampNeg) ≤ (1 : Int32) := hM9.at1 43 0 ((p1).toNatClampNeg)
      exact vp_of (by decide) (by grind) (show p1 < (40 : Int32) by grind)
    have g18 := vp_to (by decide) g18
    have g18 : (0 : Int32) ≤ p1 ∧ p1 < (40 : Int32) := g18
    refine ok_gd ?_ (fun g20 => ?_)
    · have c21 : (0 : Int32) ≤ (M9.1 48 0 (p1).toNatClampNeg) ∧ (M9.1 48 0 (p1).toNatClampNeg) ≤ (9 : Int32) := hM9.at1 48 0 ((p1).toNatClampNeg)
      have c22 : (0 : Int32) ≤ (M9.1 43 0 (p1).toNatClampNeg) ∧ (M9.1 43 0 (p1).toNatClampNeg) ≤ (1 : Int32) := hM9.at1 43 0 ((p1).toNatClampNeg)
      exact vp_of (by decide) (by grind) (show (M9.1 48 0 (p1).toNatClampNeg) < (10 : Int32) by grind)
    have g20 := vp_to (by decide) g20
    have g20 : (0 : Int32) ≤ (M9.1 48 0 (p1).toNatClampNeg) ∧ (M9.1 48 0 (p1).toNatClampNeg) < (10 : Int32) := g20
    refine ok_gd ?_ (fun g23 => ?_)
    · have c24 : (0 : Int32) ≤ (M9.1 48 0 (p1).toNatClampNeg) ∧ (M9.1 48 0 (p1).toNatClampNeg) ≤ (9 : Int32) := hM9.at1 48 0 ((p1).toNatClampNeg)
      have c25 : (0 : Int32) ≤ (M9.1 43 0 (p1).toNatClampNeg) ∧ (M9.1 43 0 (p1).toNatClampNeg) ≤ (1 : Int32) := hM9.at1 43 0 ((p1).toNatClampNeg)
      exact vp_of (by decide) (by grind) (show (M9.1 48 0 (p1).toNatClampNeg) < (10 : Int32) by grind)
    have g23 := vp_to (by decide) g23
    have g23 : (0 : Int32) ≤ (M9.1 48 0 (p1).toNatClampNeg) ∧ (M9.1 48 0 (p1).toNatClampNeg) < (10 : Int32) := g23
    refine ok_lq (fun M14 eq_26 => ?_)
    have hM14 : IV A B M14 := by rw [eq_26]; exact hM9.w1f rfl (a8 (((M9.1 48 0 (p1).toNatClampNeg)).toNatClampNeg)) rfl
    have pf27 : (0 : Int32) ≤ (98 : Int32) ∧ (98 : Int32) ≤ (115 : Int32) := by
      exact ⟨by grind, by grind⟩
    exact ok_some ⟨hM14, pf27⟩
  · refine ok_gd ?_ (fun g28 => ?_)
    · exact vp_of (by decide) (by grind) (show p1 < (40 : Int32) by grind)
    have g28 := vp_to (by decide) g28
    have g28 : (0 : Int32) ≤ p1 ∧ p1 < (40 : Int32) := g28
    refine ok_lq (fun M16 eq_29 => ?_)
    have pf30 : (0 : Int32) ≤ (vp_nar .char (115 : Int32)) ∧ (vp_nar .char (115 : Int32)) ≤ (65535 : Int32) := by
      have c31 : (vp_nar .char (115 : Int32)) = (115 : Int32) := by decide
      exact ⟨by grind, by grind⟩
    have hM16 : IV A B M16 := by rw [eq_29]; exact hM5.w1 rfl (a4 ((p1).toNatClampNeg)) pf30
    refine ok_gd ?_ (fun g32 => ?_)
    · exact vp_of (by decide) (by grind) (show p0 < (10 : Int32) by grind)
    have g32 := vp_to (by decide) g32
    have g32 : (0 : Int32) ≤ p0 ∧ p0 < (10 : Int32) := g32
    refine ok_gd ?_ (fun g33 => ?_)
    · exact vp_of (by decide) (by grind) (show p0 < (10 : Int32) by grind)
    have g33 := vp_to (by decide) g33
    have g33 : (0 : Int32) ≤ p0 ∧ p0 < (10 : Int32) := g33
    refine ok_lq (fun M19 eq_34 => ?_)
    have hM19 : IV A B M19 := by rw [eq_34]; exact hM16.w1f rfl (a8 ((p0).toNatClampNeg)) rfl
    refine ok_b1 (s_X7_makesRoom M19 hM19 (a1) (a2) (a3) (fun p => a4 p) (fun p => a5 p) (fun p => a6 p) (fun p => a7 p) (fun p => a9 p) (fun p => a10 p)) (fun M21 v20 w35 => ?_)
    have hM21 : IV A B M21 := w35.1
    refine ok_ite (fun q36 => ?_) (fun q36 => ?_)
    · have pf37 : (0 : Int32) ≤ (0 : Int32) ∧ (0 : Int32) ≤ (115 : Int32) := by
        exact ⟨by grind, by grind⟩
      exact ok_some ⟨hM21, pf37⟩
    · have pf38 : (0 : Int32) ≤ (115 : Int32) ∧ (115 : Int32) ≤ (115 : Int32) := by
        exact ⟨by grind, by grind⟩
      exact ok_some ⟨hM21, pf38⟩
theorem s_X7_give {A : Nat → Nat → Nat → Prop} {B : SS} (M : SS) (hM : IV A B M) (p0 : Int32) (p1 : Int32) (a1 : A 26 0 38) (a2 : A 26 0 39) (a3 : A 26 0 40) (a4 : A 26 0 9) (a5 : ∀ p, A 42 0 p) (a6 : ∀ p, A 43 0 p) (a7 : ∀ p, A 44 0 p) (a8 : ∀ p, A 45 0 p) (a9 : ∀ p, A 51 0 p) (a10 : ∀ p, A 53 0 p) (a11 : ∀ p, A 54 0 p) : ok (f_X7_give M p0 p1) (fun r => IV A B r.1 ∧ (0 : Int32) ≤ r.2 ∧ r.2 ≤ (115 : Int32)) := by
  unfold f_X7_give
  refine ok_b0 (s_X7_isMember M hM p0) (fun v1 w1 => ?_)
  have w2 : (0 : Int32) ≤ v1 ∧ v1 ≤ (1 : Int32) ∧ ((v1 = 0 ∧ (p0 < 0 ∨ (M.1 26 0 4) ≤ p0)) ∨ (v1 = 1 ∧ 0 ≤ p0 ∧ p0 < (M.1 26 0 4))) := w1
  refine ok_ite (fun q3 => ?_) (fun q3 => ?_)
  · unfold f_X7_give_J17
    unfold f_X7_give_J50
    refine ok_lq (fun M5 eq_4 => ?_)
    have hM5 : IV A B M5 := by rw [eq_4]; exact hM.w1 rfl (a4) (show (0 : Int32) ≤ (1 : Int32) ∧ (1 : Int32) ≤ (3 : Int32) from ⟨by decide, by decide⟩)
    refine ok_ite (fun q5 => ?_) (fun q5 => ?_)
    · have c6 : (M5.1 26 0 9) = (1 : Int32) := by rw [eq_4]; exact up_s
      exfalso
      grind
    · have c7 : (M5.1 26 0 9) = (1 : Int32) := by rw [eq_4]; exact up_s
      have pf8 : (0 : Int32) ≤ (0 : Int32) ∧ (0 : Int32) ≤ (115 : Int32) := by
        exact ⟨by grind, by grind⟩
      exact ok_some ⟨hM5, pf8⟩
  · refine ok_b0 (s_X7_isWork M hM p1) (fun v13 w9 => ?_)
    have w10 : (0 : Int32) ≤ v13 ∧ v13 ≤ (1 : Int32) ∧ ((v13 = 0 ∧ (p1 < 0 ∨ (M.1 26 0 5) ≤ p1)) ∨ (v13 = 1 ∧ 0 ≤ p1 ∧ p1 < (M.1 26 0 5))) := w9
    refine ok_ite (fun q11 => ?_) (fun q11 => ?_)
    · unfold f_X7_give_J17
      unfold f_X7_give_J50
      refine ok_lq (fun M5 eq_12 => ?_)
      have hM5 : IV A B M5 := by rw [eq_12]; exact hM.w1 rfl (a4) (show (0 : Int32) ≤ (1 : Int32) ∧ (1 : Int32) ≤ (3 : Int32) from ⟨by decide, by decide⟩)
      refine ok_ite (fun q13 => ?_) (fun q13 => ?_)
      · have c14 : (M5.1 26 0 9) = (1 : Int32) := by rw [eq_12]; exact up_s
        exfalso
        grind
      · have c15 : (M5.1 26 0 9) = (1 : Int32) := by rw [eq_12]; exact up_s
        have pf16 : (0 : Int32) ≤ (0 : Int32) ∧ (0 : Int32) ≤ (115 : Int32) := by
          exact ⟨by grind, by grind⟩
        exact ok_some ⟨hM5, pf16⟩
    · refine ok_gd ?_ (fun g17 => ?_)
      · have c18 : (0 : Int32) ≤ (M.1 26 0 5) ∧ (M.1 26 0 5) ≤ (40 : Int32) := hM.at1 26 0 5
        exact vp_of (by decide) (by grind) (show p1 < (40 : Int32) by grind)
      have g17 := vp_to (by decide) g17
      have g17 : (0 : Int32) ≤ p1 ∧ p1 < (40 : Int32) := g17
      refine ok_ite (fun q19 => ?_) (fun q19 => ?_)
      · have pf20 : (0 : Int32) ≤ p0 ∧ p0 ≤ (9 : Int32) := by
          have c21 : (0 : Int32) ≤ (M.1 26 0 4) ∧ (M.1 26 0 4) ≤ (10 : Int32) := hM.at1 26 0 4
          exact ⟨by grind, by grind⟩
        have pf22 : (0 : Int32) ≤ p1 ∧ p1 ≤ (39 : Int32) := by
          have c23 : (0 : Int32) ≤ (M.1 26 0 5) ∧ (M.1 26 0 5) ≤ (40 : Int32) := hM.at1 26 0 5
          have c24 : (0 : Int32) ≤ (M.1 42 0 (p1).toNatClampNeg) ∧ (M.1 42 0 (p1).toNatClampNeg) ≤ (65535 : Int32) := hM.at1 42 0 ((p1).toNatClampNeg)
          exact ⟨by grind, by grind⟩
        refine ok_b0 (s_X7_hasCopy M hM p0 pf20 p1 pf22) (fun v18 w25 => ?_)
        have w26 : (0 : Int32) ≤ v18 ∧ v18 ≤ (1 : Int32) := w25
        refine ok_ite (fun q27 => ?_) (fun q27 => ?_)
        · unfold f_X7_give_J50
          refine ok_lq (fun M5 eq_28 => ?_)
          have hM5 : IV A B M5 := by rw [eq_28]; exact hM.w1 rfl (a4) (show (0 : Int32) ≤ (3 : Int32) ∧ (3 : Int32) ≤ (3 : Int32) from ⟨by decide, by decide⟩)
          refine ok_ite (fun q29 => ?_) (fun q29 => ?_)
          · have c30 : (M5.1 26 0 9) = (3 : Int32) := by rw [eq_28]; exact up_s
            exfalso
            grind
          · have c31 : (M5.1 26 0 9) = (3 : Int32) := by rw [eq_28]; exact up_s
            have pf32 : (0 : Int32) ≤ (0 : Int32) ∧ (0 : Int32) ≤ (115 : Int32) := by
              exact ⟨by grind, by grind⟩
            exact ok_some ⟨hM5, pf32⟩
        · unfold f_X7_give_J50
          refine ok_lq (fun M5 eq_33 => ?_)
          have hM5 : IV A B M5 := by rw [eq_33]; exact hM.w1 rfl (a4) (show (0 : Int32) ≤ (0 : Int32) ∧ (0 : Int32) ≤ (3 : Int32) from ⟨by decide, by decide⟩)
          refine ok_ite (fun q34 => ?_) (fun q34 => ?_)
          · have c35 : (M5.1 26 0 9) = (0 : Int32) := by rw [eq_33]; exact up_s
            have pf36 : (0 : Int32) ≤ p0 ∧ p0 ≤ (9 : Int32) := by
              have c37 : (0 : Int32) ≤ (M.1 26 0 4) ∧ (M.1 26 0 4) ≤ (10 : Int32) := hM.at1 26 0 4
              exact ⟨by grind, by grind⟩
            have pf38 : (0 : Int32) ≤ p1 ∧ p1 ≤ (39 : Int32) := by
              have c39 : (0 : Int32) ≤ (M.1 26 0 5) ∧ (M.1 26 0 5) ≤ (40 : Int32) := hM.at1 26 0 5
              have c40 : (0 : Int32) ≤ (M.1 42 0 (p1).toNatClampNeg) ∧ (M.1 42 0 (p1).toNatClampNeg) ≤ (65535 : Int32) := hM.at1 42 0 ((p1).toNatClampNeg)
              exact ⟨by grind, by grind⟩
            refine ok_b1 (s_X7_closes M5 hM5 p0 pf36 p1 pf38 (a1) (a2) (a3) (fun p => a5 p) (fun p => a6 p) (fun p => a7 p) (fun p => a8 p) (fun p => a9 p) (fun p => a10 p) (fun p => a11 p)) (fun M8 v7 w41 => ?_)
            have hM8 : IV A B M8 := w41.1
            have w42 : (0 : Int32) ≤ v7 ∧ v7 ≤ (115 : Int32) := w41.2
            refine ok_gd ?_ (fun g43 => ?_)
            · exact okc_of (by grind) (by grind)
            have pf44 : (0 : Int32) ≤ v7 ∧ v7 ≤ (115 : Int32) := by
              exact ⟨by grind, by grind⟩
            exact ok_some ⟨hM8, pf44⟩
          · have c45 : (M5.1 26 0 9) = (0 : Int32) := by rw [eq_33]; exact up_s
            exfalso
            grind
      · unfold f_X7_give_J50
        refine ok_lq (fun M5 eq_46 => ?_)
        have hM5 : IV A B M5 := by rw [eq_46]; exact hM.w1 rfl (a4) (show (0 : Int32) ≤ (2 : Int32) ∧ (2 : Int32) ≤ (3 : Int32) from ⟨by decide, by decide⟩)
        refine ok_ite (fun q47 => ?_) (fun q47 => ?_)
        · have c48 : (M5.1 26 0 9) = (2 : Int32) := by rw [eq_46]; exact up_s
          exfalso
          grind
        · have c49 : (M5.1 26 0 9) = (2 : Int32) := by rw [eq_46]; exact up_s
          have pf50 : (0 : Int32) ≤ (0 : Int32) ∧ (0 : Int32) ≤ (115 : Int32) := by
            exact ⟨by grind, by grind⟩
          exact ok_some ⟨hM5, pf50⟩