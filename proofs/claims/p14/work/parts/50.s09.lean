theorem s_L_left {A : Nat → Nat → Nat → Prop} {B : SS} (X : SS) (hX : IV A B X) (O : SS) (p1 : Int32) : ok (f_L_left X O p1) (fun r => (0 : Int32) ≤ r.2 ∧ r.2 ≤ (2 : Int32)) := by
  unfold f_L_left
  refine ok_e0 (s_X6_left X hX p1) (fun v1 w1 => ?_) (fun E4 w1 => ?_)
  · refine ok_lq (fun O9 eq_2 => ?_)
    have pf3 : (0 : Int32) ≤ (0 : Int32) ∧ (0 : Int32) ≤ (2 : Int32) := by
      exact ⟨by grind, by grind⟩
    exact ok_some pf3
  · have w4 : E4 = "java/lang/IndexOutOfBoundsException" ∨ E4 = "java/lang/UnsupportedOperationException" := w1
    refine ok_ite (fun q5 => ?_) (fun q5 => ?_)
    · have pf6 : (0 : Int32) ≤ (1 : Int32) ∧ (1 : Int32) ≤ (2 : Int32) := by
        exact ⟨by grind, by grind⟩
      exact ok_some pf6
    · refine ok_ite (fun q7 => ?_) (fun q7 => ?_)
      · have pf8 : (0 : Int32) ≤ (2 : Int32) ∧ (2 : Int32) ≤ (2 : Int32) := by
          exact ⟨by grind, by grind⟩
        exact ok_some pf8
      · exact absurd (by grind : False) id
theorem s_L_days {A : Nat → Nat → Nat → Prop} {B : SS} (X : SS) (hX : IV A B X) (O : SS) (p1 : Int32) (a1 : A 0 0 12) (a2 : ∀ j, A 12 j 11) (a3 : ∀ j, A 12 j 16) (a4 : ∀ p, A 24 0 p) (a5 : ∀ j, A 9 j 3) : ok (f_L_days X O p1) (fun r => IV A B r.1 ∧ (0 : Int32) ≤ r.2.2 ∧ r.2.2 ≤ (1 : Int32)) := by
  unfold f_L_days
  refine ok_e1 (s_X6_days X hX p1 (a1) a2 a3 (fun p => a4 p) a5) (fun X2 v1 w1 => ?_) (fun X2 E5 w1 => ?_)
  · have hX2 : IV A B X2 := w1.1
    refine ok_lq (fun O9 eq_2 => ?_)
    have pf3 : (0 : Int32) ≤ (0 : Int32) ∧ (0 : Int32) ≤ (1 : Int32) := by
      exact ⟨by grind, by grind⟩
    exact ok_some ⟨hX2, pf3⟩
  · have hX2 : IV A B X2 := w1.1
    have w4 : E5 = "java/lang/IllegalArgumentException" := w1.2
    refine ok_ite (fun q5 => ?_) (fun q5 => ?_)
    · have pf6 : (0 : Int32) ≤ (1 : Int32) ∧ (1 : Int32) ≤ (1 : Int32) := by
        exact ⟨by grind, by grind⟩
      exact ok_some ⟨hX2, pf6⟩
    · exact absurd (by grind : False) id
theorem s_L_standingShare {A : Nat → Nat → Nat → Prop} {B : SS} (X : SS) (hX : IV A B X) (O : SS) : ok (f_L_standingShare X O) (fun r => (0 : Int32) ≤ r.2 ∧ r.2 ≤ (1 : Int32)) := by
  unfold f_L_standingShare
  refine ok_e0 (s_X6_standingShare X hX) (fun v1 w1 => ?_) (fun E4 w1 => ?_)
  · have nv1 : vf_n32 v1 := w1
    refine ok_gd ?_ (fun g2 => ?_)
    · exact nn_f2d nv1
    refine ok_lq (fun O9 eq_3 => ?_)
    have pf4 : (0 : Int32) ≤ (0 : Int32) ∧ (0 : Int32) ≤ (1 : Int32) := by
      exact ⟨by grind, by grind⟩
    exact ok_some pf4
  · have w5 : E4 = "java/lang/ArithmeticException" := w1
    refine ok_ite (fun q6 => ?_) (fun q6 => ?_)
    · have pf7 : (0 : Int32) ≤ (1 : Int32) ∧ (1 : Int32) ≤ (1 : Int32) := by
        exact ⟨by grind, by grind⟩
      exact ok_some pf7
    · exact absurd (by grind : False) id
theorem s_L_meanSteps {A : Nat → Nat → Nat → Prop} {B : SS} (X : SS) (hX : IV A B X) (O : SS) (p1 : Int32) (a1 : A 16 1 4) (a2 : A 16 1 5) (a3 : A 16 1 6) (a4 : A 16 1 7) (a5 : A 16 1 8) (a6 : ∀ p, A 17 1 p) (a7 : ∀ p, A 18 1 p) (a8 : ∀ p, A 19 1 p) (a9 : ∀ p, A 20 1 p) : ok (f_L_meanSteps X O p1) (fun r => IV A B r.1 ∧ (0 : Int32) ≤ r.2.2 ∧ r.2.2 ≤ (2 : Int32)) := by
  unfold f_L_meanSteps
  refine ok_e1 (s_X6_meanSteps X hX p1 (a1) (a2) (a3) (a4) (a5) (fun p => a6 p) (fun p => a7 p) (fun p => a8 p) (fun p => a9 p)) (fun X2 v1 w1 => ?_) (fun X2 E5 w1 => ?_)
  · have hX2 : IV A B X2 := w1.1
    have nv1 : vf_n64 v1 := w1.2
    refine ok_lq (fun O10 eq_2 => ?_)
    have pf3 : (0 : Int32) ≤ (0 : Int32) ∧ (0 : Int32) ≤ (2 : Int32) := by
      exact ⟨by grind, by grind⟩
    exact ok_some ⟨hX2, pf3⟩
  · have hX2 : IV A B X2 := w1.1
    have w4 : E5 = "java/lang/ArithmeticException" ∨ E5 = "java/lang/IndexOutOfBoundsException" := w1.2
    refine ok_ite (fun q5 => ?_) (fun q5 => ?_)
    · have pf6 : (0 : Int32) ≤ (1 : Int32) ∧ (1 : Int32) ≤ (2 : Int32) := by
        exact ⟨by grind, by grind⟩
      exact ok_some ⟨hX2, pf6⟩
    · refine ok_ite (fun q7 => ?_) (fun q7 => ?_)
      · have pf8 : (0 : Int32) ≤ (2 : Int32) ∧ (2 : Int32) ≤ (2 : Int32) := by
          exact ⟨by grind, by grind⟩
        exact ok_some ⟨hX2, pf8⟩
      · exact absurd (by grind : False) id