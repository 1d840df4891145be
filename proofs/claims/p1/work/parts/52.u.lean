/-! a new object -/
theorem h_S0 (hR : REL S0 S0) : OKS S0 := hR.1
theorem zW (p : Int32) : p < 0 ∨ S0.1 0 0 11 ≤ p := by
  rw [show S0.1 0 0 11 = 0 from rfl]
  grind
theorem zM (p : Int32) : p < 0 ∨ S0.1 0 0 10 ≤ p := by
  rw [show S0.1 0 0 10 = 0 from rfl]
  grind
theorem zW2 (hR : REL S0 S0) (p : Int32) : f_X7_isWork S0 p = some 0 := by
  rw [isWork_eq hR.2.1 p, if_pos (show p < 0 ∨ S0.1 26 0 5 ≤ p by rw [show S0.1 26 0 5 = 0 from rfl]; grind)]
theorem zM2 (hR : REL S0 S0) (p : Int32) : f_X7_isMember S0 p = some 0 := by
  rw [isMember_eq hR.2.1 p, if_pos (show p < 0 ∨ S0.1 26 0 4 ≤ p by rw [show S0.1 26 0 4 = 0 from rfl]; grind)]
theorem zK (p : Int32) : p < 0 ∨ S0.1 0 0 9 ≤ p := by
  rw [show S0.1 0 0 9 = 0 from rfl]
  grind
theorem zK2 (p : Int32) : p < 0 ∨ S0.1 26 0 3 ≤ p := by
  rw [show S0.1 26 0 3 = 0 from rfl]
  grind

theorem z_of {O : SS} (hR : REL S0 S0) (p1 p2 : Int32) : ∃ O2 k M2 b, f_L_of S0 O p1 p2 = some (O2, k) ∧ f_X7_of S0 p1 p2 = some (M2, b) ∧ True ∧ (M2.1 26 0 9 = k ∧ ¬ k = 0) := by
  have e1 : f_L_of S0 O p1 p2 = some (O, 1) := by
    unfold f_L_of f_X6_of
    rw [workAt_no (zW p1)]
    rfl
  have e2 : f_X7_of S0 p1 p2 = some (u1 S0 26 0 9 1, 0) := by
    unfold f_X7_of
    rw [zW2 hR p1, b0_some, if_pos rfl]
    rfl
  exact ⟨_, _, _, _, e1, e2, trivial, up_s, by decide⟩
theorem z_state {O : SS} (hR : REL S0 S0) (p1 : Int32) : ∃ O2 k M2 b, f_L_state S0 O p1 = some (O2, k) ∧ f_X7_state S0 p1 = some (M2, b) ∧ True ∧ (M2.1 26 0 9 = k ∧ ¬ k = 0) := by
  have e1 : f_L_state S0 O p1 = some (O, 1) := by
    unfold f_L_state f_X6_state
    rw [workAt_no (zW p1)]
    rfl
  have e2 : f_X7_state S0 p1 = some (u1 S0 26 0 9 1, 0) := by
    unfold f_X7_state
    rw [zW2 hR p1, b0_some, if_pos rfl]
    unfold f_X7_state_J14
    rw [lq_e, up_s, if_neg (by decide)]
  exact ⟨_, _, _, _, e1, e2, trivial, up_s, by decide⟩
theorem z_steps {O : SS} (hR : REL S0 S0) (p1 p2 : Int32) : ∃ X2 O2 k M2 b, f_L_steps S0 O p1 p2 = some (X2, O2, k) ∧ f_X7_steps S0 p1 p2 = some (M2, b) ∧ True ∧ (M2.1 26 0 9 = k ∧ ¬ k = 0) := by
  have e1 : f_L_steps S0 O p1 p2 = some (S0, O, 1) := by
    unfold f_L_steps f_X6_steps
    rw [workAt_no (zW p1)]
    rfl
  have e2 : f_X7_steps S0 p1 p2 = some (u1 S0 26 0 9 1, 0) := by
    unfold f_X7_steps
    rw [zW2 hR p1, b0_some, if_pos rfl]
    rfl
  exact ⟨_, _, _, _, _, e1, e2, trivial, up_s, by decide⟩
theorem z_hasBody {O : SS} (hR : REL S0 S0) (p1 : Int32) : ∃ O2 k M2 b, f_L_hasBody S0 O p1 = some (O2, k) ∧ f_X7_hasBody S0 p1 = some (M2, b) ∧ True ∧ (M2.1 26 0 9 = k ∧ ¬ k = 0) := by
  have e1 : f_L_hasBody S0 O p1 = some (O, 1) := by
    unfold f_L_hasBody f_X6_hasBody
    rw [workAt_no (zW p1)]
    rfl
  have e2 : f_X7_hasBody S0 p1 = some (u1 S0 26 0 9 1, 0) := by
    unfold f_X7_hasBody
    rw [zW2 hR p1, b0_some, if_pos rfl]
    unfold f_X7_hasBody_J14
    rw [lq_e, up_s, if_neg (by decide)]
  exact ⟨_, _, _, _, e1, e2, trivial, up_s, by decide⟩
theorem z_letter {O : SS} (hR : REL S0 S0) (p1 p2 : Int32) : ∃ O2 k M2 b, f_L_letter S0 O p1 p2 = some (O2, k) ∧ f_X7_letter S0 p1 p2 = some (M2, b) ∧ True ∧ (M2.1 26 0 9 = k ∧ ¬ k = 0) := by
  have e1 : f_L_letter S0 O p1 p2 = some (O, 1) := by
    unfold f_L_letter f_X6_letter
    rw [workAt_no (zW p1)]
    rfl
  have e2 : f_X7_letter S0 p1 p2 = some (u1 S0 26 0 9 1, 0) := by
    unfold f_X7_letter
    rw [zW2 hR p1, b0_some, if_pos rfl]
    unfold f_X7_letter_J43
    rw [lq_e, up_s, if_neg (by decide)]
  exact ⟨_, _, _, _, e1, e2, trivial, up_s, by decide⟩
theorem z_drop {O : SS} (hR : REL S0 S0) (p1 : Int32) : ∃ X2 O2 k M2 b, f_L_drop S0 O p1 = some (X2, O2, k) ∧ f_X7_drop S0 p1 = some (M2, b) ∧ True ∧ (M2.1 26 0 9 = k ∧ ¬ k = 0) := by
  have e1 : f_L_drop S0 O p1 = some (S0, O, 1) := by
    unfold f_L_drop f_X6_drop
    rw [workAt_no (zW p1)]
    rfl
  have e2 : f_X7_drop S0 p1 = some (u1 S0 26 0 9 1, 0) := by
    unfold f_X7_drop
    rw [zW2 hR p1, b0_some, if_pos rfl]
    rfl
  exact ⟨_, _, _, _, _, e1, e2, trivial, up_s, by decide⟩
theorem z_style {O : SS} (hR : REL S0 S0) (p1 p2 : Int32) : ∃ O2 k M2 b, f_L_style S0 O p1 p2 = some (O2, k) ∧ f_X7_style S0 p1 p2 = some (M2, b) ∧ True ∧ (M2.1 26 0 9 = k ∧ ¬ k = 0) := by
  have e1 : f_L_style S0 O p1 p2 = some (O, 1) := by
    unfold f_L_style f_X6_style
    rw [workAt_no (zW p1)]
    rfl
  have e2 : f_X7_style S0 p1 p2 = some (u1 S0 26 0 9 1, 0) := by
    unfold f_X7_style
    rw [zW2 hR p1, b0_some, if_pos rfl]
    unfold f_X7_style_J14
    rw [lq_e, up_s, if_neg (by decide)]
  exact ⟨_, _, _, _, e1, e2, trivial, up_s, by decide⟩
theorem z_left {O : SS} (hR : REL S0 S0) (p1 : Int32) : ∃ O2 k M2 b, f_L_left S0 O p1 = some (O2, k) ∧ f_X7_left S0 p1 = some (M2, b) ∧ True ∧ (M2.1 26 0 9 = k ∧ ¬ k = 0) := by
  have e1 : f_L_left S0 O p1 = some (O, 1) := by
    unfold f_L_left f_X6_left
    rw [workAt_no (zW p1)]
    rfl
  have e2 : f_X7_left S0 p1 = some (u1 S0 26 0 9 1, 0) := by
    unfold f_X7_left
    rw [zW2 hR p1, b0_some, if_pos rfl]
    rfl
  exact ⟨_, _, _, _, e1, e2, trivial, up_s, by decide⟩
theorem z_meanSteps {O : SS} (hR : REL S0 S0) (p1 : Int32) : ∃ X2 O2 k M2 b, f_L_meanSteps S0 O p1 = some (X2, O2, k) ∧ f_X7_meanSteps S0 p1 = some (M2, b) ∧ True ∧ (M2.1 26 0 9 = k ∧ ¬ k = 0) := by
  have e1 : f_L_meanSteps S0 O p1 = some (S0, O, 1) := by
    unfold f_L_meanSteps f_X6_meanSteps
    rw [workAt_no (zW p1)]
    rfl
  have e2 : f_X7_meanSteps S0 p1 = some (u1 S0 26 0 9 1, FP.dconst0) := by
    unfold f_X7_meanSteps
    rw [zW2 hR p1, b0_some, if_pos rfl]
    unfold f_X7_meanSteps_J14
    rw [lq_e, up_s, if_neg (by decide)]
  exact ⟨_, _, _, _, _, e1, e2, trivial, up_s, by decide⟩
theorem z_read {O : SS} (hR : REL S0 S0) (p1 p2 : Int32) : ∃ X2 O2 k M2 b, f_L_read S0 O p1 p2 = some (X2, O2, k) ∧ f_X7_read S0 p1 p2 = some (M2, b) ∧ True ∧ (M2.1 26 0 9 = k ∧ ¬ k = 0) := by
  have e1 : f_L_read S0 O p1 p2 = some (S0, O, 1) := by
    unfold f_L_read f_X6_read
    rw [memberAt_no (zM p1)]
    rfl
  have e2 : f_X7_read S0 p1 p2 = some (u1 S0 26 0 9 1, 0) := by
    unfold f_X7_read
    rw [zM2 hR p1, b0_some, if_pos rfl]
    rfl
  exact ⟨_, _, _, _, _, e1, e2, trivial, up_s, by decide⟩
theorem z_copy {O : SS} (hR : REL S0 S0) (p1 p2 : Int32) : ∃ O2 k M2 b, f_L_copy S0 O p1 p2 = some (O2, k) ∧ f_X7_copy S0 p1 p2 = some (M2, b) ∧ True ∧ (M2.1 26 0 9 = k ∧ ¬ k = 0) := by
  have e1 : f_L_copy S0 O p1 p2 = some (O, 1) := by
    unfold f_L_copy f_X6_copy
    rw [memberAt_no (zM p1)]
    rfl
  have e2 : f_X7_copy S0 p1 p2 = some (u1 S0 26 0 9 1, 0) := by
    unfold f_X7_copy
    rw [zM2 hR p1, b0_some, if_pos rfl]
    rfl
  exact ⟨_, _, _, _, e1, e2, trivial, up_s, by decide⟩
theorem z_vote {O : SS} (hR : REL S0 S0) (p1 p2 p3 : Int32) : ∃ X2 O2 k M2 b, f_L_vote S0 O p1 p2 p3 = some (X2, O2, k) ∧ f_X7_vote S0 p1 p2 p3 = some (M2, b) ∧ True ∧ (M2.1 26 0 9 = k ∧ ¬ k = 0) := by
  have e1 : f_L_vote S0 O p1 p2 p3 = some (S0, O, 1) := by
    unfold f_L_vote f_X6_vote
    rw [memberAt_no (zM p1)]
    rfl
  have e2 : f_X7_vote S0 p1 p2 p3 = some (u1 S0 26 0 9 1, 0) := by
    unfold f_X7_vote
    rw [zM2 hR p1, b0_some, if_pos rfl]
    rfl
  exact ⟨_, _, _, _, _, e1, e2, trivial, up_s, by decide⟩
theorem z_review {O : SS} (hR : REL S0 S0) (p1 : Int32) : ∃ O2 k M2 b, f_L_review S0 O p1 = some (O2, k) ∧ f_X7_review S0 p1 = some (M2, b) ∧ True ∧ (M2.1 26 0 9 = k ∧ ¬ k = 0) := by
  have e1 : f_L_review S0 O p1 = some (O, 1) := by
    unfold f_L_review f_X6_review
    rw [memberAt_no (zM p1)]
    rfl
  have e2 : f_X7_review S0 p1 = some (u1 S0 26 0 9 1, 0) := by
    unfold f_X7_review
    rw [zM2 hR p1, b0_some, if_pos rfl]
    rfl
  exact ⟨_, _, _, _, e1, e2, trivial, up_s, by decide⟩
theorem z_best {O : SS} (hR : REL S0 S0) (p1 p2 : Int32) : ∃ X2 O2 k M2 b, f_L_best S0 O p1 p2 = some (X2, O2, k) ∧ f_X7_best S0 p1 p2 = some (M2, b) ∧ True ∧ (M2.1 26 0 9 = k ∧ ¬ k = 0) := by
  have e1 : f_L_best S0 O p1 p2 = some (S0, O, 1) := by
    unfold f_L_best f_X6_best
    rw [memberAt_no (zM p1)]
    rfl
  have e2 : f_X7_best S0 p1 p2 = some (u1 S0 26 0 9 1, 0) := by
    unfold f_X7_best
    rw [zM2 hR p1, b0_some, if_pos rfl]
    rfl
  exact ⟨_, _, _, _, _, e1, e2, trivial, up_s, by decide⟩
theorem z_points {O : SS} (hR : REL S0 S0) (p1 : Int32) : ∃ X2 O2 k M2 b, f_L_points S0 O p1 = some (X2, O2, k) ∧ f_X7_points S0 p1 = some (M2, b) ∧ True ∧ (M2.1 26 0 9 = k ∧ ¬ k = 0) := by
  have e1 : f_L_points S0 O p1 = some (S0, O, 1) := by
    unfold f_L_points f_X6_points
    rw [memberAt_no (zM p1)]
    rfl
  have e2 : f_X7_points S0 p1 = some (u1 S0 26 0 9 1, FP.fconst0) := by
    unfold f_X7_points
    rw [zM2 hR p1, b0_some, if_pos rfl]
    unfold f_X7_points_J14
    rw [lq_e, up_s, if_neg (by decide)]
  exact ⟨_, _, _, _, _, e1, e2, trivial, up_s, by decide⟩
theorem z_belt {O : SS} (hR : REL S0 S0) (p1 : Int32) : ∃ X2 O2 k M2 b, f_L_belt S0 O p1 = some (X2, O2, k) ∧ f_X7_belt S0 p1 = some (M2, b) ∧ True ∧ (M2.1 26 0 9 = k ∧ ¬ k = 0) := by
  have e1 : f_L_belt S0 O p1 = some (S0, O, 1) := by
    unfold f_L_belt f_X6_belt
    rw [memberAt_no (zM p1)]
    rfl
  have e2 : f_X7_belt S0 p1 = some (u1 S0 26 0 9 1, 0) := by
    unfold f_X7_belt
    rw [zM2 hR p1, b0_some, if_pos rfl]
    rfl
  exact ⟨_, _, _, _, _, e1, e2, trivial, up_s, by decide⟩
theorem z_honour {O : SS} (hR : REL S0 S0) (p1 : Int32) : ∃ O2 k M2 b, f_L_honour S0 O p1 = some (O2, k) ∧ f_X7_honour S0 p1 = some (M2, b) ∧ True ∧ (M2.1 26 0 9 = k ∧ ¬ k = 0) := by
  have e1 : f_L_honour S0 O p1 = some (O, 1) := by
    unfold f_L_honour f_X6_honour
    rw [memberAt_no (zM p1)]
    rfl
  have e2 : f_X7_honour S0 p1 = some (u1 S0 26 0 9 1, 0) := by
    unfold f_X7_honour
    rw [zM2 hR p1, b0_some, if_pos rfl]
    rfl
  exact ⟨_, _, _, _, e1, e2, trivial, up_s, by decide⟩
theorem z_challenge {O : SS} (hR : REL S0 S0) (p1 p2 : Int32) : ∃ X2 O2 k M2 b, f_L_challenge S0 O p1 p2 = some (X2, O2, k) ∧ f_X7_challenge S0 p1 p2 = some (M2, b) ∧ True ∧ (M2.1 26 0 9 = k ∧ ¬ k = 0) := by
  have e1 : f_L_challenge S0 O p1 p2 = some (S0, O, 1) := by
    unfold f_L_challenge f_X6_challenge
    rw [memberAt_no (zM p1)]
    rfl
  have e2 : f_X7_challenge S0 p1 p2 = some (u1 S0 26 0 9 1, 0) := by
    unfold f_X7_challenge
    rw [zM2 hR p1, b0_some, if_pos rfl]
    rfl
  exact ⟨_, _, _, _, _, e1, e2, trivial, up_s, by decide⟩
theorem z_give {O : SS} (hR : REL S0 S0) (p1 p2 : Int32) : ∃ X2 O2 k M2 b, f_L_give S0 O p1 p2 = some (X2, O2, k) ∧ f_X7_give S0 p1 p2 = some (M2, b) ∧ True ∧ (M2.1 26 0 9 = k ∧ ¬ k = 0) := by
  have e1 : f_L_give S0 O p1 p2 = some (S0, O, 1) := by
    unfold f_L_give f_X6_give
    rw [memberAt_no (zM p1)]
    rfl
  have e2 : f_X7_give S0 p1 p2 = some (u1 S0 26 0 9 1, 0) := by
    unfold f_X7_give
    rw [zM2 hR p1, b0_some, if_pos rfl]
    unfold f_X7_give_J17
    unfold f_X7_give_J50
    rw [lq_e, up_s, if_neg (by decide)]
  exact ⟨_, _, _, _, _, e1, e2, trivial, up_s, by decide⟩
theorem z_answer {O : SS} (hR : REL S0 S0) (p1 p2 : Int32) : ∃ X2 O2 k M2 b, f_L_answer S0 O p1 p2 = some (X2, O2, k) ∧ f_X7_answer S0 p1 p2 = some (M2, b) ∧ True ∧ (M2.1 26 0 9 = k ∧ ¬ k = 0) := by
  have e1 : f_L_answer S0 O p1 p2 = some (S0, O, 1) := by
    unfold f_L_answer f_X6_answer
    rw [memberAt_no (zM p1)]
    rfl
  have e2 : f_X7_answer S0 p1 p2 = some (u1 S0 26 0 9 1, 0) := by
    unfold f_X7_answer
    rw [zM2 hR p1, b0_some, if_pos rfl]
    unfold f_X7_answer_J17
    unfold f_X7_answer_J46
    rw [lq_e, up_s, if_neg (by decide)]
  exact ⟨_, _, _, _, _, e1, e2, trivial, up_s, by decide⟩
theorem z_test {O : SS} (hR : REL S0 S0) (p1 : Int32) : ∃ X2 O2 k M2 b, f_L_test S0 O p1 = some (X2, O2, k) ∧ f_X7_test S0 p1 = some (M2, b) ∧ True ∧ (M2.1 26 0 9 = k ∧ ¬ k = 0) := by
  have e1 : f_L_test S0 O p1 = some (S0, O, 1) := by
    unfold f_L_test f_X6_test
    rw [kataAt_no (zK p1)]
    rfl
  have e2 : f_X7_test S0 p1 = some (u1 S0 26 0 9 1, 0) := by
    unfold f_X7_test
    rw [isKata_eq hR.2.1, if_pos (zK2 p1), b0_some, if_pos rfl]
    rfl
  exact ⟨_, _, _, _, _, e1, e2, trivial, up_s, by decide⟩
theorem z_fix {O : SS} (hR : REL S0 S0) (p1 p2 : Int32) : ∃ X2 O2 k M2 b, f_L_fix S0 O p1 p2 = some (X2, O2, k) ∧ f_X7_fix S0 p1 p2 = some (M2, b) ∧ True ∧ (M2.1 26 0 9 = k ∧ ¬ k = 0) := by
  have e1 : f_L_fix S0 O p1 p2 = some (S0, O, 1) := by
    unfold f_L_fix f_X6_fix
    rw [kataAt_no (zK p1)]
    rfl
  have e2 : f_X7_fix S0 p1 p2 = some (u1 S0 26 0 9 1, 0) := by
    unfold f_X7_fix
    rw [isTest_no hR.2.1 (Or.inl (zK2 p1)), b0_some, if_pos rfl]
    rfl
  exact ⟨_, _, _, _, _, e1, e2, trivial, up_s, by decide⟩
theorem z_ranked {O : SS} (hR : REL S0 S0) (p1 : Int32) : ∃ X2 O2 k M2 b, f_L_ranked S0 O p1 = some (X2, O2, k) ∧ f_X7_ranked S0 p1 = some (M2, b) ∧ True ∧ (M2.1 26 0 9 = k ∧ ¬ k = 0) := by
  exact ⟨S0, O, 1, u1 S0 26 0 9 1, 0, rfl, rfl, trivial, up_s, by decide⟩
theorem z_open {O : SS} (hR : REL S0 S0) (p1 : Int32) : ∃ O2 k M2 b, f_L_open S0 O p1 = some (O2, k) ∧ f_X7_open S0 p1 = some (M2, b) ∧ True ∧ (M2.1 26 0 9 = k ∧ ¬ k = 0) := by
  have e1 : f_L_open S0 O p1 = some (O, 1) := by
    unfold f_L_open f_X6_open
    by_cases z : p1 < 0
    · rw [if_pos z]
      rfl
    · rw [if_neg z, if_neg (show ¬ p1 < S0.1 0 0 12 by rw [show S0.1 0 0 12 = 0 from rfl]; exact z)]
      rfl
  exact ⟨O, 1, u1 S0 26 0 9 1, 0, e1, rfl, trivial, up_s, by decide⟩
theorem z_standingShare {O : SS} (hR : REL S0 S0) : ∃ O2 k M2 b, f_L_standingShare S0 O  = some (O2, k) ∧ f_X7_standingShare S0  = some (M2, b) ∧ True ∧ (M2.1 26 0 9 = k ∧ ¬ k = 0) := by
  exact ⟨O, 1, u1 S0 26 0 9 1, FP.fconst0, rfl, rfl, trivial, up_s, by decide⟩
theorem z_capacity {O : SS} (hR : REL S0 S0) (p1 : Int32) : ∃ X2 O2 k M2 b, f_L_capacity S0 O p1 = some (X2, O2, k) ∧ f_X7_capacity S0 p1 = some (M2, b) ∧ True ∧ AG O2 M2 k b := by
  by_cases z : p1 < 1
  · have e1 : f_L_capacity S0 O p1 = some (S0, O, 1) := by
      unfold f_L_capacity f_X6_capacity
      rw [if_pos z]
      rfl
    have e2 : f_X7_capacity S0 p1 = some (u1 S0 26 0 9 1, 0) := by
      unfold f_X7_capacity
      rw [in_eq, if_pos (Or.inl z), b0_some, if_pos rfl]
      rfl
    exact ⟨_, _, _, _, _, e1, e2, trivial, up_s, fun z => absurd z (by decide)⟩
  by_cases y : p1 ≤ 40
  · have e1 : f_L_capacity S0 O p1 = some (u1 S0 0 0 13 p1, u2 O 56 0 0 ((0 : Int32)).toInt64, 0) := by
      unfold f_L_capacity f_X6_capacity
      rw [if_neg z, if_pos y, lq_e]
      unfold f_X6_makeRoom
      rw [show f_X6_bodyCount (u1 S0 0 0 13 p1) = some 0 from rfl, b0_some, lq_e, up_s, f_X6_makeRoom_L12]
      show e1 (b1 (if (0 : Int32) - p1 ≤ 0 then some (u1 S0 0 0 13 p1, (0 : Int32)) else _) _) _ _ = _
      rw [if_pos (by grind)]
      rfl
    have e2 : f_X7_capacity S0 p1 = some (u1 (u1 S0 26 0 6 p1) 26 0 9 0, 0) := by
      unfold f_X7_capacity
      rw [in_eq, if_neg (show ¬ (p1 < 1 ∨ 40 < p1) by grind), b0_some, if_neg (by decide), lq_e]
      unfold f_X7_makesRoom
      rw [f_X7_makesRoom_L2]
      show b1 (b0 (f_X7_bodyCount (u1 S0 26 0 6 p1)) _) _ = _
      rw [show f_X7_bodyCount (u1 S0 26 0 6 p1) = some 0 from rfl, b0_some, up_s, if_pos (by grind)]
      rfl
    exact ⟨_, _, _, _, _, e1, e2, trivial, up_s, fun _ => u2_s⟩
  · have e1 : f_L_capacity S0 O p1 = some (S0, O, 1) := by
      unfold f_L_capacity f_X6_capacity
      rw [if_neg z, if_neg y]
      rfl
    have e2 : f_X7_capacity S0 p1 = some (u1 S0 26 0 9 1, 0) := by
      unfold f_X7_capacity
      rw [in_eq, if_pos (show p1 < 1 ∨ 40 < p1 by grind), b0_some, if_pos rfl]
      rfl
    exact ⟨_, _, _, _, _, e1, e2, trivial, up_s, fun z => absurd z (by decide)⟩
theorem z_days {O : SS} (hR : REL S0 S0) (p1 : Int32) : ∃ X2 O2 k M2 b, f_L_days S0 O p1 = some (X2, O2, k) ∧ f_X7_days S0 p1 = some (M2, b) ∧ True ∧ AG O2 M2 k b := by
  by_cases z : p1 < 1
  · have e1 : f_L_days S0 O p1 = some (S0, O, 1) := by
      unfold f_L_days f_X6_days
      rw [if_pos z]
      rfl
    have e2 : f_X7_days S0 p1 = some (u1 S0 26 0 9 1, 0) := by
      unfold f_X7_days
      rw [in_eq, if_pos (Or.inl z), b0_some, if_pos rfl]
      rfl
    exact ⟨_, _, _, _, _, e1, e2, trivial, up_s, fun z => absurd z (by decide)⟩
  by_cases y : p1 ≤ 30
  · have e1 : f_L_days S0 O p1 = some (S0, u2 O 56 0 0 ((0 : Int32)).toInt64, 0) := by
      unfold f_L_days f_X6_days
      rw [if_neg z, if_pos y, lq_e]
      rfl
    have e2 : f_X7_days S0 p1 = some (u1 S0 26 0 9 0, 0) := by
      unfold f_X7_days
      rw [in_eq, if_neg (show ¬ (p1 < 1 ∨ 30 < p1) by grind), b0_some, if_neg (by decide)]
      rfl
    exact ⟨_, _, _, _, _, e1, e2, trivial, up_s, fun _ => u2_s⟩
  · have e1 : f_L_days S0 O p1 = some (S0, O, 1) := by
      unfold f_L_days f_X6_days
      rw [if_neg z, if_neg y]
      rfl
    have e2 : f_X7_days S0 p1 = some (u1 S0 26 0 9 1, 0) := by
      unfold f_X7_days
      rw [in_eq, if_pos (show p1 < 1 ∨ 30 < p1 by grind), b0_some, if_pos rfl]
      rfl
    exact ⟨_, _, _, _, _, e1, e2, trivial, up_s, fun z => absurd z (by decide)⟩
theorem z_bodies (hR : REL S0 S0) : ∃ v M2 b, f_X6_bodies S0 = some v ∧ f_X7_bodies S0 = some (M2, b) ∧ True ∧ v = b := ⟨0, u1 S0 26 0 9 0, 0, rfl, rfl, trivial, rfl⟩
theorem z_checksum (hR : REL S0 S0) : ∃ v M2 b, f_X6_checksum S0 = some v ∧ f_X7_checksum S0 = some (M2, b) ∧ True ∧ v = b := ⟨7, u1 S0 26 0 9 0, 7, rfl, rfl, trivial, rfl⟩
theorem z_isSound (hR : REL S0 S0) : ∃ X2 v M2 b, f_X6_isSound S0 = some (X2, v) ∧ f_X7_isSound S0 = some (M2, b) ∧ True ∧ v = b := ⟨S0, 1, u1 S0 26 0 9 0, 1, rfl, rfl, trivial, rfl⟩