theorem s_X6_days {A : Nat → Nat → Nat → Prop} {B : SS} (X : SS) (hX : IV A B X) (p0 : Int32) (a1 : A 0 0 12) (a2 : ∀ j, A 12 j 11) (a3 : ∀ j, A 12 j 16) (a4 : ∀ p, A 24 0 p) (a5 : ∀ j, A 9 j 3) : ok (f_X6_days X p0) (fun r => IV A B r.1 ∧ se (fun v => True) (fun E => E = "java/lang/IllegalArgumentException") r.2) := by
  unfold f_X6_days
  refine ok_ite (fun q1 => ?_) (fun q1 => ?_)
  · have pf2 : "java/lang/IllegalArgumentException" = "java/lang/IllegalArgumentException" := by simp
    exact ok_some ⟨hX, pf2⟩
  · refine ok_ite (fun q3 => ?_) (fun q3 => ?_)
    · refine ok_lq (fun v3 eq_4 => ?_)
      have pf5 : (1 : Int32) ≤ p0 ∧ p0 ≤ (30 : Int32) := by
        exact ⟨by grind, by grind⟩
      have pf6 : FD v3 1000 := by
        have c7 : (0 : Int32) ≤ (X.1 0 0 12) ∧ (X.1 0 0 12) ≤ (8 : Int32) := hX.at1 0 0 12
        exact FD.start (show v3 ≤ (900 : Int32) by grind)
      have pf8 : ((-1) : Int32) ≤ v3 ∧ v3 ≤ (7 : Int32) := by
        have c9 : (0 : Int32) ≤ (X.1 0 0 12) ∧ (X.1 0 0 12) ≤ (8 : Int32) := hX.at1 0 0 12
        exact ⟨by grind, by grind⟩
      refine s_X6_days_L31 p0 pf5 (a1) a2 a3 (fun p => a4 p) a5 1000 v3 (0 : Int32) X _ pf6 pf8 hX (fun v5 X6 hX6 => ?_)
      exact ok_some ⟨hX6, trivial⟩
    · have pf10 : "java/lang/IllegalArgumentException" = "java/lang/IllegalArgumentException" := by simp
      exact ok_some ⟨hX, pf10⟩
theorem s_X6_checksum_L56 {A : Nat → Nat → Nat → Prop} {B : SS} (X : SS) (hX : IV A B X) : ∀ (n : Nat), ∀ (v8 : Int32) (v9 : Int64) (k6 : (Int64 → Option (Int64))), (FU v8 10 n) → ((0 : Int32) ≤ v8 ∧ v8 ≤ (10 : Int32)) → (∀ (k_0 : Int64), ok (k6 k_0) (fun r => True)) → ok (f_X6_checksum_L56 X n v8 v9 k6) (fun r => True) := by
  intro n
  induction n with
  | zero =>
    intro v8 v9 k6 hF iv8 hk
    exact (FU.stop hF (show v8 ≤ (10 : Int32) by grind)).elim
  | succ n ih =>
    intro v8 v9 k6 hF iv8 hk
    rw [f_X6_checksum_L56]
    refine ok_ite (fun q1 => ?_) (fun q1 => ?_)
    · exact hk v9
    · refine ok_gd ?_ (fun g2 => ?_)
      · have c3 : (0 : Int32) ≤ (X.1 0 0 10) ∧ (X.1 0 0 10) ≤ (10 : Int32) := hX.at1 0 0 10
        exact vp_of (by decide) (by grind) (show v8 < (10 : Int32) by grind)
      have g2 := vp_to (by decide) g2
      have g2 : (0 : Int32) ≤ v8 ∧ v8 < (10 : Int32) := g2
      refine ok_lq (fun v12 eq_4 => ?_)
      have pf5 : FU (v8 + (1 : Int32)) 10 n := by
        have c6 : (0 : Int32) ≤ (X.1 0 0 10) ∧ (X.1 0 0 10) ≤ (10 : Int32) := hX.at1 0 0 10
        exact FU.step hF (by grind)
      have pf7 : (0 : Int32) ≤ (v8 + (1 : Int32)) ∧ (v8 + (1 : Int32)) ≤ (10 : Int32) := by
        have c8 : (0 : Int32) ≤ (X.1 0 0 10) ∧ (X.1 0 0 10) ≤ (10 : Int32) := hX.at1 0 0 10
        exact ⟨by grind, by grind⟩
      exact ih (v8 + (1 : Int32)) v12 k6 pf5 pf7 hk
theorem s_X6_checksum_L6 {A : Nat → Nat → Nat → Prop} {B : SS} (X : SS) (hX : IV A B X) : ∀ (n : Nat), ∀ (v4 : Int32) (v5 : Int64) (k2 : (Int64 → Option (Int64))), (FU v4 40 n) → ((0 : Int32) ≤ v4 ∧ v4 ≤ (40 : Int32)) → (∀ (k_0 : Int64), ok (k2 k_0) (fun r => True)) → ok (f_X6_checksum_L6 X n v4 v5 k2) (fun r => True) := by
  intro n
  induction n with
  | zero =>
    intro v4 v5 k2 hF iv4 hk
    exact (FU.stop hF (show v4 ≤ (40 : Int32) by grind)).elim
  | succ n ih =>
    intro v4 v5 k2 hF iv4 hk
    rw [f_X6_checksum_L6]
    refine ok_ite (fun q1 => ?_) (fun q1 => ?_)
    · exact hk v5
    · refine ok_gd ?_ (fun g2 => ?_)
      · have c3 : (0 : Int32) ≤ (X.1 0 0 11) ∧ (X.1 0 0 11) ≤ (40 : Int32) := hX.at1 0 0 11
        exact vp_of (by decide) (by grind) (show v4 < (40 : Int32) by grind)
      have g2 := vp_to (by decide) g2
      have g2 : (0 : Int32) ≤ v4 ∧ v4 < (40 : Int32) := g2
      refine ok_lq (fun v15 eq_4 => ?_)
      refine ok_gd ?_ (fun g5 => ?_)
      · have c6 : (0 : Int32) ≤ (X.1 0 0 11) ∧ (X.1 0 0 11) ≤ (40 : Int32) := hX.at1 0 0 11
        exact vp_of (by decide) (by grind) (show v4 < (40 : Int32) by grind)
      have g5 := vp_to (by decide) g5
      have g5 : (0 : Int32) ≤ v4 ∧ v4 < (40 : Int32) := g5
      refine ok_lq (fun v17 eq_7 => ?_)
      have pf8 : FU (v4 + (1 : Int32)) 40 n := by
        have c9 : (0 : Int32) ≤ (X.1 0 0 11) ∧ (X.1 0 0 11) ≤ (40 : Int32) := hX.at1 0 0 11
        exact FU.step hF (by grind)
      have pf10 : (0 : Int32) ≤ (v4 + (1 : Int32)) ∧ (v4 + (1 : Int32)) ≤ (40 : Int32) := by
        have c11 : (0 : Int32) ≤ (X.1 0 0 11) ∧ (X.1 0 0 11) ≤ (40 : Int32) := hX.at1 0 0 11
        exact ⟨by grind, by grind⟩
      exact ih (v4 + (1 : Int32)) v17 k2 pf8 pf10 hk
theorem s_X6_checksum {A : Nat → Nat → Nat → Prop} {B : SS} (X : SS) (hX : IV A B X) : ok (f_X6_checksum X) (fun r => True) := by
  unfold f_X6_checksum
  refine ok_lq (fun v1 eq_1 => ?_)
  have pf2 : FU (0 : Int32) 40 1000 := by
    exact FU.start (by grind) (by decide)
  refine s_X6_checksum_L6 X hX 1000 (0 : Int32) v1 _ pf2 (show (0 : Int32) ≤ (0 : Int32) ∧ (0 : Int32) ≤ (40 : Int32) from ⟨by decide, by decide⟩) (fun v3 => ?_)
  have pf3 : FU (0 : Int32) 10 1000 := by
    exact FU.start (by grind) (by decide)
  refine s_X6_checksum_L56 X hX 1000 (0 : Int32) v3 _ pf3 (show (0 : Int32) ≤ (0 : Int32) ∧ (0 : Int32) ≤ (10 : Int32) from ⟨by decide, by decide⟩) (fun v7 => ?_)
  exact ok_some trivial
theorem s_X6_standingShare_L22 {A : Nat → Nat → Nat → Prop} {B : SS} (X : SS) (hX : IV A B X) : ∀ (n : Nat), ∀ (v4 : Int32) (v5 : Int32) (k2 : (Int32 → Option ((UInt32 ⊕ String)))), (FU v4 40 n) → ((0 : Int32) ≤ v4 ∧ v4 ≤ (40 : Int32)) → (∀ (k_0 : Int32), ok (k2 k_0) (fun r => se (fun v => vf_n32 v) (fun E => E = "java/lang/ArithmeticException") r)) → ok (f_X6_standingShare_L22 X n v4 v5 k2) (fun r => se (fun v => vf_n32 v) (fun E => E = "java/lang/ArithmeticException") r) := by
  intro n
  induction n with
  | zero =>
    intro v4 v5 k2 hF iv4 hk
    exact (FU.stop hF (show v4 ≤ (40 : Int32) by grind)).elim
  | succ n ih =>
    intro v4 v5 k2 hF iv4 hk
    rw [f_X6_standingShare_L22]
    refine ok_ite (fun q1 => ?_) (fun q1 => ?_)
    · exact hk v5
    · refine ok_gd ?_ (fun g2 => ?_)
      · have c3 : (0 : Int32) ≤ (X.1 0 0 11) ∧ (X.1 0 0 11) ≤ (40 : Int32) := hX.at1 0 0 11
        exact vp_of (by decide) (by grind) (show v4 < (40 : Int32) by grind)
      have g2 := vp_to (by decide) g2
      have g2 : (0 : Int32) ≤ v4 ∧ v4 < (40 : Int32) := g2
      refine ok_b0 (s_X5_isCounted X hX (v4).toNatClampNeg) (fun v9 w4 => ?_)
      have w5 : (0 : Int32) ≤ v9 ∧ v9 ≤ (1 : Int32) := w4
      refine ok_ite (fun q6 => ?_) (fun q6 => ?_)
      · have pf7 : FU (v4 + (1 : Int32)) 40 n := by
          have c8 : (0 : Int32) ≤ (X.1 0 0 11) ∧ (X.1 0 0 11) ≤ (40 : Int32) := hX.at1 0 0 11
          exact FU.step hF (by grind)
        have pf9 : (0 : Int32) ≤ (v4 + (1 : Int32)) ∧ (v4 + (1 : Int32)) ≤ (40 : Int32) := by
          have c10 : (0 : Int32) ≤ (X.1 0 0 11) ∧ (X.1 0 0 11) ≤ (40 : Int32) := hX.at1 0 0 11
          exact ⟨by grind, by grind⟩
        exact ih (v4 + (1 : Int32)) v5 k2 pf7 pf9 hk
      · have pf11 : FU (v4 + (1 : Int32)) 40 n := by
          have c12 : (0 : Int32) ≤ (X.1 0 0 11) ∧ (X.1 0 0 11) ≤ (40 : Int32) := hX.at1 0 0 11
          exact FU.step hF (by grind)
        have pf13 : (0 : Int32) ≤ (v4 + (1 : Int32)) ∧ (v4 + (1 : Int32)) ≤ (40 : Int32) := by
          have c14 : (0 : Int32) ≤ (X.1 0 0 11) ∧ (X.1 0 0 11) ≤ (40 : Int32) := hX.at1 0 0 11
          exact ⟨by grind, by grind⟩
        exact ih (v4 + (1 : Int32)) (v5 + (1 : Int32)) k2 pf11 pf13 hk
theorem s_X6_standingShare {A : Nat → Nat → Nat → Prop} {B : SS} (X : SS) (hX : IV A B X) : ok (f_X6_standingShare X) (fun r => se (fun v => vf_n32 v) (fun E => E = "java/lang/ArithmeticException") r) := by
  unfold f_X6_standingShare
  refine ok_ite (fun q1 => ?_) (fun q1 => ?_)
  · have pf2 : "java/lang/ArithmeticException" = "java/lang/ArithmeticException" := by simp
    exact ok_some pf2
  · have pf3 : FU (0 : Int32) 40 1000 := by
      exact FU.start (by grind) (by decide)
    refine s_X6_standingShare_L22 X hX 1000 (0 : Int32) (0 : Int32) _ pf3 (show (0 : Int32) ≤ (0 : Int32) ∧ (0 : Int32) ≤ (40 : Int32) from ⟨by decide, by decide⟩) (fun v3 => ?_)
    refine ok_gd ?_ (fun g4 => ?_)
    · have z5 : ¬ ((X.1 0 0 11) = 0) := by
        have c6 : (0 : Int32) ≤ (X.1 0 0 11) ∧ (X.1 0 0 11) ≤ (40 : Int32) := hX.at1 0 0 11
        grind
      exact nn_fdiv z5
    have z7 : ¬ ((X.1 0 0 11) = 0) := by
      have c8 : (0 : Int32) ≤ (X.1 0 0 11) ∧ (X.1 0 0 11) ≤ (40 : Int32) := hX.at1 0 0 11
      grind
    exact ok_some (nn_fdiv z7)
theorem s_X6_meanSteps_L14 {A : Nat → Nat → Nat → Prop} {B : SS} (i1 : Nat) (a1 : A 16 1 4) (a2 : A 16 1 5) (a3 : A 16 1 6) (a4 : A 16 1 7) (a5 : A 16 1 8) (a6 : ∀ p, A 17 1 p) (a7 : ∀ p, A 18 1 p) (a8 : ∀ p, A 19 1 p) (a9 : ∀ p, A 20 1 p) : ∀ (n : Nat), ∀ (v11 : Int32) (v12 : Int32) (v13 : Int32) (X14 : SS) (k7 : (Int32 → Int32 → SS → Option (SS × (UInt64 ⊕ String)))), (FU v11 5 n) → ((0 : Int32) ≤ v11 ∧ v11 ≤ (5 : Int32)) → (IV A B X14) → (∀ (k_0 : Int32) (k_1 : Int32) (k_2 : SS), (IV A B k_2) → ok (k7 k_0 k_1 k_2) (fun r => IV A B r.1 ∧ se (fun v => vf_n64 v) (fun E => E = "java/lang/ArithmeticException" ∨ E = "java/lang/IndexOutOfBoundsException") r.2)) → ok (f_X6_meanSteps_L14 i1 n v11 v12 v13 X14 k7) (fun r => IV A B r.1 ∧ se (fun v => vf_n64 v) (fun E => E = "java/lang/ArithmeticException" ∨ E = "java/lang/IndexOutOfBoundsException") r.2) := by
  intro n
  induction n with
  | zero =>
    intro v11 v12 v13 X14 k7 hF iv11 hX14 hk
    exact (FU.stop hF (show v11 ≤ (5 : Int32) by grind)).elim
  | succ n ih =>
    intro v11 v12 v13 X14 k7 hF iv11 hX14 hk
    rw [f_X6_meanSteps_L14]
    refine ok_gd ?_ (fun g1 => ?_)
    · have c2 : (0 : Int32) ≤ (X14.1 12 i1 8) ∧ (X14.1 12 i1 8) ≤ (7 : Int32) := hX14.at1 12 i1 8
      exact vp_of (by decide) (by grind) (show (X14.1 12 i1 8) < (8 : Int32) by grind)
    have g1 := vp_to (by decide) g1
    have g1 : (0 : Int32) ≤ (X14.1 12 i1 8) ∧ (X14.1 12 i1 8) < (8 : Int32) := g1
    refine ok_ite (fun q3 => ?_) (fun q3 => ?_)
    · exact hk v12 v13 X14 hX14
    · have pf4 : (0 : Int32) ≤ v11 ∧ v11 ≤ (4 : Int32) := by
        have c5 : (0 : Int32) ≤ (X14.1 7 ((X14.1 12 i1 8)).toNatClampNeg 1) ∧ (X14.1 7 ((X14.1 12 i1 8)).toNatClampNeg 1) ≤ (5 : Int32) := hX14.at1 7 (((X14.1 12 i1 8)).toNatClampNeg) 1
        have c6 : (0 : Int32) ≤ (X14.1 12 i1 8) ∧ (X14.1 12 i1 8) ≤ (7 : Int32) := hX14.at1 12 i1 8
        exact ⟨by grind, by grind⟩
      refine ok_b1 (s_X6_stepsTold X14 hX14 i1 v11 pf4 (a1) (a2) (a3) (a4) (a5) (fun p => a6 p) (fun p => a7 p) (fun p => a8 p) (fun p => a9 p)) (fun X20 v19 w7 => ?_)
      have hX20 : IV A B X20 := w7.1
      refine ok_ite (fun q8 => ?_) (fun q8 => ?_)
      · have pf9 : FU (v11 + (1 : Int32)) 5 n := by
          have c10 : (0 : Int32) ≤ (X14.1 7 ((X14.1 12 i1 8)).toNatClampNeg 1) ∧ (X14.1 7 ((X14.1 12 i1 8)).toNatClampNeg 1) ≤ (5 : Int32) := hX14.at1 7 (((X14.1 12 i1 8)).toNatClampNeg) 1
          have c11 : (0 : Int32) ≤ (X14.1 12 i1 8) ∧ (X14.1 12 i1 8) ≤ (7 : Int32) := hX14.at1 12 i1 8
          exact FU.step hF (by grind)
        have pf12 : (0 : Int32) ≤ (v11 + (1 : Int32)) ∧ (v11 + (1 : Int32)) ≤ (5 : Int32) := by
          have c13 : (0 : Int32) ≤ (X14.1 7 ((X14.1 12 i1 8)).toNatClampNeg 1) ∧ (X14.1 7 ((X14.1 12 i1 8)).toNatClampNeg 1) ≤ (5 : Int32) := hX14.at1 7 (((X14.1 12 i1 8)).toNatClampNeg) 1
          have c14 : (0 : Int32) ≤ (X14.1 12 i1 8) ∧ (X14.1 12 i1 8) ≤ (7 : Int32) := hX14.at1 12 i1 8
          exact ⟨by grind, by grind⟩
        exact ih (v11 + (1 : Int32)) v12 v13 X20 k7 pf9 pf12 hX20 hk
      · refine ok_lq (fun v23 eq_15 => ?_)
        have pf16 : FU (v11 + (1 : Int32)) 5 n := by
          have c17 : (0 : Int32) ≤ (X14.1 7 ((X14.1 12 i1 8)).toNatClampNeg 1) ∧ (X14.1 7 ((X14.1 12 i1 8)).toNatClampNeg 1) ≤ (5 : Int32) := hX14.at1 7 (((X14.1 12 i1 8)).toNatClampNeg) 1
          have c18 : (0 : Int32) ≤ (X14.1 12 i1 8) ∧ (X14.1 12 i1 8) ≤ (7 : Int32) := hX14.at1 12 i1 8
          exact FU.step hF (by grind)
        have pf19 : (0 : Int32) ≤ (v11 + (1 : Int32)) ∧ (v11 + (1 : Int32)) ≤ (5 : Int32) := by
          have c20 : (0 : Int32) ≤ (X14.1 7 ((X14.1 12 i1 8)).toNatClampNeg 1) ∧ (X14.1 7 ((X14.1 12 i1 8)).toNatClampNeg 1) ≤ (5 : Int32) := hX14.at1 7 (((X14.1 12 i1 8)).toNatClampNeg) 1
          have c21 : (0 : Int32) ≤ (X14.1 12 i1 8) ∧ (X14.1 12 i1 8) ≤ (7 : Int32) := hX14.at1 12 i1 8
          exact ⟨by grind, by grind⟩
        exact ih (v11 + (1 : Int32)) (v12 + (1 : Int32)) v23 X20 k7 pf16 pf19 hX20 hk
theorem s_X6_meanSteps {A : Nat → Nat → Nat → Prop} {B : SS} (X : SS) (hX : IV A B X) (p0 : Int32) (a1 : A 16 1 4) (a2 : A 16 1 5) (a3 : A 16 1 6) (a4 : A 16 1 7) (a5 : A 16 1 8) (a6 : ∀ p, A 17 1 p) (a7 : ∀ p, A 18 1 p) (a8 : ∀ p, A 19 1 p) (a9 : ∀ p, A 20 1 p) : ok (f_X6_meanSteps X p0) (fun r => IV A B r.1 ∧ se (fun v => vf_n64 v) (fun E => E = "java/lang/ArithmeticException" ∨ E = "java/lang/IndexOutOfBoundsException") r.2) := by
  unfold f_X6_meanSteps
  refine ok_e0 (s_X6_workAt X hX p0) (fun i1 w1 => ?_) (fun E4 w1 => ?_)
  · have w2 : ((0 : Int32) ≤ p0 ∧ p0 < (X.1 0 0 11)) := w1
    have pf3 : FU (0 : Int32) 5 1000 := by
      exact FU.start (by grind) (by decide)
    refine s_X6_meanSteps_L14 i1 (a1) (a2) (a3) (a4) (a5) (fun p => a6 p) (fun p => a7 p) (fun p => a8 p) (fun p => a9 p) 1000 (0 : Int32) (0 : Int32) (0 : Int32) X _ pf3 (show (0 : Int32) ≤ (0 : Int32) ∧ (0 : Int32) ≤ (5 : Int32) from ⟨by decide, by decide⟩) hX (fun v8 v9 X10 hX10 => ?_)
    refine ok_ite (fun q4 => ?_) (fun q4 => ?_)
    · have pf5 : "java/lang/ArithmeticException" = "java/lang/ArithmeticException" ∨ "java/lang/ArithmeticException" = "java/lang/IndexOutOfBoundsException" := by simp
      exact ok_some ⟨hX10, pf5⟩
    · refine ok_gd ?_ (fun g6 => ?_)
      · have z7 : ¬ (v8 = 0) := by
          grind
        exact nn_ddiv z7
      have z8 : ¬ (v8 = 0) := by
        grind
      exact ok_some ⟨hX10, (nn_ddiv z8)⟩
  · have w9 : E4 = "java/lang/IndexOutOfBoundsException" := w1
    have pf10 : E4 = "java/lang/ArithmeticException" ∨ E4 = "java/lang/IndexOutOfBoundsException" := by grind
    exact ok_some ⟨hX, pf10⟩
theorem s_X6_areBodiesSound_L2 {A : Nat → Nat → Nat → Prop} {B : SS} (a1 : A 16 1 4) (a2 : A 16 1 5) (a3 : A 16 1 6) (a4 : A 16 1 7) (a5 : A 16 1 8) (a6 : ∀ p, A 17 1 p) (a7 : ∀ p, A 18 1 p) (a8 : ∀ p, A 19 1 p) (a9 : ∀ p, A 20 1 p) : ∀ (n : Nat), ∀ (v3 : Int32) (X4 : SS) (k1 : (SS → Option (SS × Int32))), (FU v3 40 n) → ((0 : Int32) ≤ v3 ∧ v3 ≤ (40 : Int32)) → (IV A B X4) → (∀ (k_0 : SS), (IV A B k_0) → ok (k1 k_0) (fun r => IV A B r.1 ∧ (0 : Int32) ≤ r.2 ∧ r.2 ≤ (1 : Int32))) → ok (f_X6_areBodiesSound_L2 n v3 X4 k1) (fun r => IV A B r.1 ∧ (0 : Int32) ≤ r.2 ∧ r.2 ≤ (1 : Int32)) := by
  intro n
  induction n with
  | zero =>
    intro v3 X4 k1 hF iv3 hX4 hk
    exact (FU.stop hF (show v3 ≤ (40 : Int32) by grind)).elim
  | succ n ih =>
    intro v3 X4 k1 hF iv3 hX4 hk
    rw [f_X6_areBodiesSound_L2]
    refine ok_ite (fun q1 => ?_) (fun q1 => ?_)
    · exact hk X4 hX4
    · refine ok_gd ?_ (fun g2 => ?_)
      · have c3 : (0 : Int32) ≤ (X4.1 0 0 11) ∧ (X4.1 0 0 11) ≤ (40 : Int32) := hX4.at1 0 0 11
        exact vp_of (by decide) (by grind) (show v3 < (40 : Int32) by grind)
      have g2 := vp_to (by decide) g2
      have g2 : (0 : Int32) ≤ v3 ∧ v3 < (40 : Int32) := g2
      refine ok_ite (fun q4 => ?_) (fun q4 => ?_)
      · have pf5 : FU (v3 + (1 : Int32)) 40 n := by
          have c6 : (0 : Int32) ≤ (X4.1 0 0 11) ∧ (X4.1 0 0 11) ≤ (40 : Int32) := hX4.at1 0 0 11
          have c7 : (0 : Int32) ≤ (X4.1 12 (v3).toNatClampNeg 12) ∧ (X4.1 12 (v3).toNatClampNeg 12) ≤ (1 : Int32) := hX4.at1 12 ((v3).toNatClampNeg) 12
          exact FU.step hF (by grind)
        have pf8 : (0 : Int32) ≤ (v3 + (1 : Int32)) ∧ (v3 + (1 : Int32)) ≤ (40 : Int32) := by
          have c9 : (0 : Int32) ≤ (X4.1 0 0 11) ∧ (X4.1 0 0 11) ≤ (40 : Int32) := hX4.at1 0 0 11
          have c10 : (0 : Int32) ≤ (X4.1 12 (v3).toNatClampNeg 12) ∧ (X4.1 12 (v3).toNatClampNeg 12) ≤ (1 : Int32) := hX4.at1 12 ((v3).toNatClampNeg) 12
          exact ⟨by grind, by grind⟩
        exact ih (v3 + (1 : Int32)) X4 k1 pf5 pf8 hX4 hk
      · refine ok_b0 (s_X3_sumOfAll X4 hX4 ((v3).toNatClampNeg + 1)) (fun v8 w11 => ?_)
        refine ok_ite (fun q12 => ?_) (fun q12 => ?_)
        · refine ok_b1 (s_X6_verdictOn X4 hX4 (v3).toNatClampNeg (a1) (a2) (a3) (a4) (a5) (fun p => a6 p) (fun p => a7 p) (fun p => a8 p) (fun p => a9 p)) (fun X12 v11 w13 => ?_)
          have hX12 : IV A B X12 := w13.1
          have w14 : (102 : Int32) ≤ v11 ∧ v11 ≤ (115 : Int32) := w13.2
          refine ok_ite (fun q15 => ?_) (fun q15 => ?_)
          · have pf16 : FU (v3 + (1 : Int32)) 40 n := by
              have c17 : (0 : Int32) ≤ (X4.1 0 0 11) ∧ (X4.1 0 0 11) ≤ (40 : Int32) := hX4.at1 0 0 11
              have c18 : (0 : Int32) ≤ (X4.1 12 (v3).toNatClampNeg 12) ∧ (X4.1 12 (v3).toNatClampNeg 12) ≤ (1 : Int32) := hX4.at1 12 ((v3).toNatClampNeg) 12
              have c19 : (0 : Int32) ≤ (X4.1 12 (v3).toNatClampNeg 11) ∧ (X4.1 12 (v3).toNatClampNeg 11) ≤ (65535 : Int32) := hX4.at1 12 ((v3).toNatClampNeg) 11
              exact FU.step hF (by grind)
            have pf20 : (0 : Int32) ≤ (v3 + (1 : Int32)) ∧ (v3 + (1 : Int32)) ≤ (40 : Int32) := by
              have c21 : (0 : Int32) ≤ (X4.1 0 0 11) ∧ (X4.1 0 0 11) ≤ (40 : Int32) := hX4.at1 0 0 11
              have c22 : (0 : Int32) ≤ (X4.1 12 (v3).toNatClampNeg 12) ∧ (X4.1 12 (v3).toNatClampNeg 12) ≤ (1 : Int32) := hX4.at1 12 ((v3).toNatClampNeg) 12
              have c23 : (0 : Int32) ≤ (X4.1 12 (v3).toNatClampNeg 11) ∧ (X4.1 12 (v3).toNatClampNeg 11) ≤ (65535 : Int32) := hX4.at1 12 ((v3).toNatClampNeg) 11
              exact ⟨by grind, by grind⟩
            exact ih (v3 + (1 : Int32)) X12 k1 pf16 pf20 hX12 hk
          · have pf24 : (0 : Int32) ≤ (0 : Int32) ∧ (0 : Int32) ≤ (1 : Int32) := by
              exact ⟨by grind, by grind⟩
            exact ok_some ⟨hX12, pf24⟩
        · have pf25 : (0 : Int32) ≤ (0 : Int32) ∧ (0 : Int32) ≤ (1 : Int32) := by
            exact ⟨by grind, by grind⟩
          exact ok_some ⟨hX4, pf25⟩
theorem s_X6_areBodiesSound {A : Nat → Nat → Nat → Prop} {B : SS} (X : SS) (hX : IV A B X) (a1 : A 16 1 4) (a2 : A 16 1 5) (a3 : A 16 1 6) (a4 : A 16 1 7) (a5 : A 16 1 8) (a6 : ∀ p, A 17 1 p) (a7 : ∀ p, A 18 1 p) (a8 : ∀ p, A 19 1 p) (a9 : ∀ p, A 20 1 p) : ok (f_X6_areBodiesSound X) (fun r => IV A B r.1 ∧ (0 : Int32) ≤ r.2 ∧ r.2 ≤ (1 : Int32)) := by
  unfold f_X6_areBodiesSound
  have pf1 : FU (0 : Int32) 40 1000 := by
    exact FU.start (by grind) (by decide)
  refine s_X6_areBodiesSound_L2 (a1) (a2) (a3) (a4) (a5) (fun p => a6 p) (fun p => a7 p) (fun p => a8 p) (fun p => a9 p) 1000 (0 : Int32) X _ pf1 (show (0 : Int32) ≤ (0 : Int32) ∧ (0 : Int32) ≤ (40 : Int32) from ⟨by decide, by decide⟩) hX (fun X2 hX2 => ?_)
  have pf2 : (0 : Int32) ≤ (1 : Int32) ∧ (1 : Int32) ≤ (1 : Int32) := by
    exact ⟨by grind, by grind⟩
  exact ok_some ⟨hX2, pf2⟩
theorem s_X6_beltFromBehind_L11 {A : Nat → Nat → Nat → Prop} {B : SS} (p0 : Int32) (ip0 : (0 : Int32) ≤ p0 ∧ p0 ≤ (9 : Int32)) (a1 : ∀ p, A 25 0 p) : ∀ (n : Nat), ∀ (v7 : Int32) (X8 : SS) (k5 : (SS → Option (SS × Int32))), (FD v7 n) → (((-1) : Int32) ≤ v7 ∧ v7 ≤ (39 : Int32)) → (IV A B X8) → (∀ (k_0 : SS), (IV A B k_0) → ok (k5 k_0) (fun r => IV A B r.1 ∧ (0 : Int32) ≤ r.2 ∧ r.2 ≤ (5 : Int32))) → ok (f_X6_beltFromBehind_L11 p0 n v7 X8 k5) (fun r => IV A B r.1 ∧ (0 : Int32) ≤ r.2 ∧ r.2 ≤ (5 : Int32)) := by
  intro n
  induction n with
  | zero =>
    intro v7 X8 k5 hF iv7 hX8 hk
    exact (FD.stop hF (by grind)).elim
  | succ n ih =>
    intro v7 X8 k5 hF iv7 hX8 hk
    rw [f_X6_beltFromBehind_L11]
    refine ok_ite (fun q1 => ?_) (fun q1 => ?_)
    · exact hk X8 hX8
    · refine ok_gd ?_ (fun g2 => ?_)
      · exact vp_of (by decide) (by grind) (show v7 < (40 : Int32) by grind)
      have g2 := vp_to (by decide) g2
      have g2 : (0 : Int32) ≤ v7 ∧ v7 < (40 : Int32) := g2
      refine ok_ite (fun q3 => ?_) (fun q3 => ?_)
      · refine ok_b0 (s_X5_isCounted X8 hX8 (v7).toNatClampNeg) (fun v14 w4 => ?_)
        have w5 : (0 : Int32) ≤ v14 ∧ v14 ≤ (1 : Int32) := w4
        refine ok_ite (fun q6 => ?_) (fun q6 => ?_)
        · have pf7 : FD (v7 + ((-1) : Int32)) n := by
            have c8 : (0 : Int32) ≤ (X8.1 12 (v7).toNatClampNeg 7) ∧ (X8.1 12 (v7).toNatClampNeg 7) ≤ (9 : Int32) := hX8.at1 12 ((v7).toNatClampNeg) 7
            exact FD.step hF (by grind)
          have pf9 : ((-1) : Int32) ≤ (v7 + ((-1) : Int32)) ∧ (v7 + ((-1) : Int32)) ≤ (39 : Int32) := by
            have c10 : (0 : Int32) ≤ (X8.1 12 (v7).toNatClampNeg 7) ∧ (X8.1 12 (v7).toNatClampNeg 7) ≤ (9 : Int32) := hX8.at1 12 ((v7).toNatClampNeg) 7
            exact ⟨by grind, by grind⟩
          exact ih (v7 + ((-1) : Int32)) X8 k5 pf7 pf9 hX8 hk
        · refine ok_gd ?_ (fun g11 => ?_)
          · have c12 : (0 : Int32) ≤ (X8.1 12 (v7).toNatClampNeg 8) ∧ (X8.1 12 (v7).toNatClampNeg 8) ≤ (7 : Int32) := hX8.at1 12 ((v7).toNatClampNeg) 8
            have c13 : (0 : Int32) ≤ (X8.1 12 (v7).toNatClampNeg 7) ∧ (X8.1 12 (v7).toNatClampNeg 7) ≤ (9 : Int32) := hX8.at1 12 ((v7).toNatClampNeg) 7
            exact vp_of (by decide) (by grind) (show (X8.1 12 (v7).toNatClampNeg 8) < (8 : Int32) by grind)
          have g11 := vp_to (by decide) g11
          have g11 : (0 : Int32) ≤ (X8.1 12 (v7).toNatClampNeg 8) ∧ (X8.1 12 (v7).toNatClampNeg 8) < (8 : Int32) := g11
          refine ok_lq (fun v18 eq_14 => ?_)
          refine ok_ite (fun q15 => ?_) (fun q15 => ?_)
          · refine ok_gd ?_ (fun g16 => ?_)
            · have c17 : (0 : Int32) ≤ (X8.1 12 (v7).toNatClampNeg 8) ∧ (X8.1 12 (v7).toNatClampNeg 8) ≤ (7 : Int32) := hX8.at1 12 ((v7).toNatClampNeg) 8
              have c18 : (0 : Int32) ≤ (X8.1 12 (v7).toNatClampNeg 7) ∧ (X8.1 12 (v7).toNatClampNeg 7) ≤ (9 : Int32) := hX8.at1 12 ((v7).toNatClampNeg) 7
              exact vp_of (by decide) (by grind) (show (X8.1 12 (v7).toNatClampNeg 8) < (8 : Int32) by grind)
            have g16 := vp_to (by decide) g16
            have g16 : (0 : Int32) ≤ (X8.1 12 (v7).toNatClampNeg 8) ∧ (X8.1 12 (v7).toNatClampNeg 8) < (8 : Int32) := g16
            refine ok_lq (fun X21 eq_19 => ?_)
            have pf20 : ((-1) : Int32) ≤ v7 ∧ v7 ≤ (39 : Int32) := by
              have c21 : (0 : Int32) ≤ (X8.1 12 (v7).toNatClampNeg 7) ∧ (X8.1 12 (v7).toNatClampNeg 7) ≤ (9 : Int32) := hX8.at1 12 ((v7).toNatClampNeg) 7
              have c22 : (0 : Int32) ≤ (X8.1 12 (v7).toNatClampNeg 8) ∧ (X8.1 12 (v7).toNatClampNeg 8) ≤ (7 : Int32) := hX8.at1 12 ((v7).toNatClampNeg) 8
              exact ⟨by grind, by grind⟩
            have hX21 : IV A B X21 := by rw [eq_19]; exact hX8.w1 rfl (a1 (((X8.1 12 (v7).toNatClampNeg 8)).toNatClampNeg)) pf20
            have pf23 : FD (v7 + ((-1) : Int32)) n := by
              have c24 : (0 : Int32) ≤ (X8.1 12 (v7).toNatClampNeg 7) ∧ (X8.1 12 (v7).toNatClampNeg 7) ≤ (9 : Int32) := hX8.at1 12 ((v7).toNatClampNeg) 7
              have c25 : (0 : Int32) ≤ (X8.1 12 (v7).toNatClampNeg 8) ∧ (X8.1 12 (v7).toNatClampNeg 8) ≤ (7 : Int32) := hX8.at1 12 ((v7).toNatClampNeg) 8
              exact FD.step hF (by grind)
            have pf26 : ((-1) : Int32) ≤ (v7 + ((-1) : Int32)) ∧ (v7 + ((-1) : Int32)) ≤ (39 : Int32) := by
              have c27 : (0 : Int32) ≤ (X8.1 12 (v7).toNatClampNeg 7) ∧ (X8.1 12 (v7).toNatClampNeg 7) ≤ (9 : Int32) := hX8.at1 12 ((v7).toNatClampNeg) 7
              have c28 : (0 : Int32) ≤ (X8.1 12 (v7).toNatClampNeg 8) ∧ (X8.1 12 (v7).toNatClampNeg 8) ≤ (7 : Int32) := hX8.at1 12 ((v7).toNatClampNeg) 8
              exact ⟨by grind, by grind⟩
            exact ih (v7 + ((-1) : Int32)) X21 k5 pf23 pf26 hX21 hk
          · refine ok_gd ?_ (fun g29 => ?_)
            · have c30 : ((-1) : Int32) ≤ (X8.1 25 0 ((X8.1 12 (v7).toNatClampNeg 8)).toNatClampNeg) ∧ (X8.1 25 0 ((X8.1 12 (v7).toNatClampNeg 8)).toNatClampNeg) ≤ (39 : Int32) := hX8.at1 25 0 (((X8.1 12 (v7).toNatClampNeg 8)).toNatClampNeg)
              have c31 : (0 : Int32) ≤ (X8.1 12 (v7).toNatClampNeg 8) ∧ (X8.1 12 (v7).toNatClampNeg 8) ≤ (7 : Int32) := hX8.at1 12 ((v7).toNatClampNeg) 8
              have c32 : (0 : Int32) ≤ (X8.1 12 (v7).toNatClampNeg 7) ∧ (X8.1 12 (v7).toNatClampNeg 7) ≤ (9 : Int32) := hX8.at1 12 ((v7).toNatClampNeg) 7
              exact vp_of (by decide) (by grind) (show v18 < (40 : Int32) by grind)
            have g29 := vp_to (by decide) g29
            have g29 : (0 : Int32) ≤ v18 ∧ v18 < (40 : Int32) := g29
            refine ok_b0 (s_X5_hasGreaterStyleThan X8 hX8 (v18).toNatClampNeg (v7).toNatClampNeg) (fun v23 w33 => ?_)
            have w34 : (0 : Int32) ≤ v23 ∧ v23 ≤ (1 : Int32) := w33
            refine ok_ite (fun q35 => ?_) (fun q35 => ?_)
            · refine ok_gd ?_ (fun g36 => ?_)
              · have c37 : (0 : Int32) ≤ (X8.1 12 (v7).toNatClampNeg 8) ∧ (X8.1 12 (v7).toNatClampNeg 8) ≤ (7 : Int32) := hX8.at1 12 ((v7).toNatClampNeg) 8
                have c38 : (0 : Int32) ≤ (X8.1 12 (v7).toNatClampNeg 7) ∧ (X8.1 12 (v7).toNatClampNeg 7) ≤ (9 : Int32) := hX8.at1 12 ((v7).toNatClampNeg) 7
                exact vp_of (by decide) (by grind) (show (X8.1 12 (v7).toNatClampNeg 8) < (8 : Int32) by grind)
              have g36 := vp_to (by decide) g36
              have g36 : (0 : Int32) ≤ (X8.1 12 (v7).toNatClampNeg 8) ∧ (X8.1 12 (v7).toNatClampNeg 8) < (8 : Int32) := g36
              refine ok_lq (fun X27 eq_39 => ?_)
              have pf40 : ((-1) : Int32) ≤ v7 ∧ v7 ≤ (39 : Int32) := by
                have c41 : (0 : Int32) ≤ (X8.1 12 (v7).toNatClampNeg 7) ∧ (X8.1 12 (v7).toNatClampNeg 7) ≤ (9 : Int32) := hX8.at1 12 ((v7).toNatClampNeg) 7
                have c42 : (0 : Int32) ≤ (X8.1 12 (v7).toNatClampNeg 8) ∧ (X8.1 12 (v7).toNatClampNeg 8) ≤ (7 : Int32) := hX8.at1 12 ((v7).toNatClampNeg) 8
                exact ⟨by grind, by grind⟩
              have hX27 : IV A B X27 := by rw [eq_39]; exact hX8.w1 rfl (a1 (((X8.1 12 (v7).toNatClampNeg 8)).toNatClampNeg)) pf40
              have pf43 : FD (v7 + ((-1) : Int32)) n := by
                have c44 : (0 : Int32) ≤ (X8.1 12 (v7).toNatClampNeg 7) ∧ (X8.1 12 (v7).toNatClampNeg 7) ≤ (9 : Int32) := hX8.at1 12 ((v7).toNatClampNeg) 7
                have c45 : (0 : Int32) ≤ (X8.1 12 (v7).toNatClampNeg 8) ∧ (X8.1 12 (v7).toNatClampNeg 8) ≤ (7 : Int32) := hX8.at1 12 ((v7).toNatClampNeg) 8
                exact FD.step hF (by grind)
              have pf46 : ((-1) : Int32) ≤ (v7 + ((-1) : Int32)) ∧ (v7 + ((-1) : Int32)) ≤ (39 : Int32) := by
                have c47 : (0 : Int32) ≤ (X8.1 12 (v7).toNatClampNeg 7) ∧ (X8.1 12 (v7).toNatClampNeg 7) ≤ (9 : Int32) := hX8.at1 12 ((v7).toNatClampNeg) 7
                have c48 : (0 : Int32) ≤ (X8.1 12 (v7).toNatClampNeg 8) ∧ (X8.1 12 (v7).toNatClampNeg 8) ≤ (7 : Int32) := hX8.at1 12 ((v7).toNatClampNeg) 8
                exact ⟨by grind, by grind⟩
              exact ih (v7 + ((-1) : Int32)) X27 k5 pf43 pf46 hX27 hk
            · have pf49 : FD (v7 + ((-1) : Int32)) n := by
                have c50 : (0 : Int32) ≤ (X8.1 12 (v7).toNatClampNeg 7) ∧ (X8.1 12 (v7).toNatClampNeg 7) ≤ (9 : Int32) := hX8.at1 12 ((v7).toNatClampNeg) 7
                have c51 : (0 : Int32) ≤ (X8.1 12 (v7).toNatClampNeg 8) ∧ (X8.1 12 (v7).toNatClampNeg 8) ≤ (7 : Int32) := hX8.at1 12 ((v7).toNatClampNeg) 8
                exact FD.step hF (by grind)
              have pf52 : ((-1) : Int32) ≤ (v7 + ((-1) : Int32)) ∧ (v7 + ((-1) : Int32)) ≤ (39 : Int32) := by
                have c53 : (0 : Int32) ≤ (X8.1 12 (v7).toNatClampNeg 7) ∧ (X8.1 12 (v7).toNatClampNeg 7) ≤ (9 : Int32) := hX8.at1 12 ((v7).toNatClampNeg) 7
                have c54 : (0 : Int32) ≤ (X8.1 12 (v7).toNatClampNeg 8) ∧ (X8.1 12 (v7).toNatClampNeg 8) ≤ (7 : Int32) := hX8.at1 12 ((v7).toNatClampNeg) 8
                exact ⟨by grind, by grind⟩
              exact ih (v7 + ((-1) : Int32)) X8 k5 pf49 pf52 hX8 hk
      · have pf55 : FD (v7 + ((-1) : Int32)) n := by
          have c56 : (0 : Int32) ≤ (X8.1 12 (v7).toNatClampNeg 7) ∧ (X8.1 12 (v7).toNatClampNeg 7) ≤ (9 : Int32) := hX8.at1 12 ((v7).toNatClampNeg) 7
          exact FD.step hF (by grind)
        have pf57 : ((-1) : Int32) ≤ (v7 + ((-1) : Int32)) ∧ (v7 + ((-1) : Int32)) ≤ (39 : Int32) := by
          have c58 : (0 : Int32) ≤ (X8.1 12 (v7).toNatClampNeg 7) ∧ (X8.1 12 (v7).toNatClampNeg 7) ≤ (9 : Int32) := hX8.at1 12 ((v7).toNatClampNeg) 7
          exact ⟨by grind, by grind⟩
        exact ih (v7 + ((-1) : Int32)) X8 k5 pf55 pf57 hX8 hk
theorem s_X6_beltFromBehind {A : Nat → Nat → Nat → Prop} {B : SS} (X : SS) (hX : IV A B X) (p0 : Int32) (ip0 : (0 : Int32) ≤ p0 ∧ p0 ≤ (9 : Int32)) (a1 : ∀ p, A 25 0 p) : ok (f_X6_beltFromBehind X p0) (fun r => IV A B r.1 ∧ (0 : Int32) ≤ r.2 ∧ r.2 ≤ (5 : Int32)) := by
  unfold f_X6_beltFromBehind
  refine ok_b1 (s_X6_takeNone X hX (fun p => a1 p)) (fun X2 v1 w1 => ?_)
  have hX2 : IV A B X2 := w1.1
  refine ok_lq (fun v4 eq_2 => ?_)
  have pf3 : (0 : Int32) ≤ p0 ∧ p0 ≤ (9 : Int32) := by
    exact ⟨by grind, by grind⟩
  have pf4 : FD v4 1000 := by
    have c5 : (0 : Int32) ≤ (X2.1 0 0 11) ∧ (X2.1 0 0 11) ≤ (40 : Int32) := hX2.at1 0 0 11
    exact FD.start (show v4 ≤ (900 : Int32) by grind)
  have pf6 : ((-1) : Int32) ≤ v4 ∧ v4 ≤ (39 : Int32) := by
    have c7 : (0 : Int32) ≤ (X2.1 0 0 11) ∧ (X2.1 0 0 11) ≤ (40 : Int32) := hX2.at1 0 0 11
    exact ⟨by grind, by grind⟩
  refine s_X6_beltFromBehind_L11 p0 pf3 (fun p => a1 p) 1000 v4 X2 _ pf4 pf6 hX2 (fun X6 hX6 => ?_)
  refine ok_b0 (s_X6_takenBelt X6 hX6) (fun v9 w8 => ?_)
  have w9 : (0 : Int32) ≤ v9 ∧ v9 ≤ (5 : Int32) := w8
  have pf10 : (0 : Int32) ≤ v9 ∧ v9 ≤ (5 : Int32) := by
    exact ⟨by grind, by grind⟩
  exact ok_some ⟨hX6, pf10⟩
theorem s_X6_areBeltsSound_L32 {A : Nat → Nat → Nat → Prop} {B : SS} (a1 : ∀ p, A 25 0 p) : ∀ (n : Nat), ∀ (v5 : Int32) (X6 : SS) (k3 : (SS → Option (SS × Int32))), (FU v5 10 n) → ((0 : Int32) ≤ v5 ∧ v5 ≤ (10 : Int32)) → (IV A B X6) → (∀ (k_0 : SS), (IV A B k_0) → ok (k3 k_0) (fun r => IV A B r.1 ∧ (0 : Int32) ≤ r.2 ∧ r.2 ≤ (1 : Int32))) → ok (f_X6_areBeltsSound_L32 n v5 X6 k3) (fun r => IV A B r.1 ∧ (0 : Int32) ≤ r.2 ∧ r.2 ≤ (1 : Int32)) := by
  intro n
  induction n with
  | zero =>
    intro v5 X6 k3 hF iv5 hX6 hk
    exact (FU.stop hF (show v5 ≤ (10 : Int32) by grind)).elim
  | succ n ih =>
    intro v5 X6 k3 hF iv5 hX6 hk
    rw [f_X6_areBeltsSound_L32]
    refine ok_ite (fun q1 => ?_) (fun q1 => ?_)
    · exact hk X6 hX6
    · have pf2 : (0 : Int32) ≤ v5 ∧ v5 ≤ (9 : Int32) := by
        have c3 : (0 : Int32) ≤ (X6.1 0 0 10) ∧ (X6.1 0 0 10) ≤ (10 : Int32) := hX6.at1 0 0 10
        exact ⟨by grind, by grind⟩
      refine ok_b1 (s_X6_beltOf X6 hX6 v5 pf2 (fun p => a1 p)) (fun X9 v8 w4 => ?_)
      have hX9 : IV A B X9 := w4.1
      have w5 : (0 : Int32) ≤ v8 ∧ v8 ≤ (5 : Int32) := w4.2
      have pf6 : (0 : Int32) ≤ v5 ∧ v5 ≤ (9 : Int32) := by
        have c7 : (0 : Int32) ≤ (X6.1 0 0 10) ∧ (X6.1 0 0 10) ≤ (10 : Int32) := hX6.at1 0 0 10
        exact ⟨by grind, by grind⟩
      refine ok_b1 (s_X6_beltFromBehind X9 hX9 v5 pf6 (fun p => a1 p)) (fun X12 v11 w8 => ?_)
      have hX12 : IV A B X12 := w8.1
      have w9 : (0 : Int32) ≤ v11 ∧ v11 ≤ (5 : Int32) := w8.2
      refine ok_ite (fun q10 => ?_) (fun q10 => ?_)
      · have pf11 : FU (v5 + (1 : Int32)) 10 n := by
          have c12 : (0 : Int32) ≤ (X6.1 0 0 10) ∧ (X6.1 0 0 10) ≤ (10 : Int32) := hX6.at1 0 0 10
          exact FU.step hF (by grind)
        have pf13 : (0 : Int32) ≤ (v5 + (1 : Int32)) ∧ (v5 + (1 : Int32)) ≤ (10 : Int32) := by
          have c14 : (0 : Int32) ≤ (X6.1 0 0 10) ∧ (X6.1 0 0 10) ≤ (10 : Int32) := hX6.at1 0 0 10
          exact ⟨by grind, by grind⟩
        exact ih (v5 + (1 : Int32)) X12 k3 pf11 pf13 hX12 hk
      · have pf15 : (0 : Int32) ≤ (0 : Int32) ∧ (0 : Int32) ≤ (1 : Int32) := by
          exact ⟨by grind, by grind⟩
        exact ok_some ⟨hX12, pf15⟩
theorem s_X6_areBeltsSound_L2 {A : Nat → Nat → Nat → Prop} {B : SS} (X : SS) (hX : IV A B X) : ∀ (n : Nat), ∀ (v2 : Int32) (k1 : (Unit → Option (SS × Int32))), (FU v2 40 n) → ((0 : Int32) ≤ v2 ∧ v2 ≤ (40 : Int32)) → (∀ (k_0 : Unit), ok (k1 k_0) (fun r => IV A B r.1 ∧ (0 : Int32) ≤ r.2 ∧ r.2 ≤ (1 : Int32))) → ok (f_X6_areBeltsSound_L2 X n v2 k1) (fun r => IV A B r.1 ∧ (0 : Int32) ≤ r.2 ∧ r.2 ≤ (1 : Int32)) := by
  intro n
  induction n with
  | zero =>
    intro v2 k1 hF iv2 hk
    exact (FU.stop hF (show v2 ≤ (40 : Int32) by grind)).elim
  | succ n ih =>
    intro v2 k1 hF iv2 hk
    rw [f_X6_areBeltsSound_L2]
    refine ok_ite (fun q1 => ?_) (fun q1 => ?_)
    · exact hk ()
    · refine ok_gd ?_ (fun g2 => ?_)
      · have c3 : (0 : Int32) ≤ (X.1 0 0 11) ∧ (X.1 0 0 11) ≤ (40 : Int32) := hX.at1 0 0 11
        exact vp_of (by decide) (by grind) (show v2 < (40 : Int32) by grind)
      have g2 := vp_to (by decide) g2
      have g2 : (0 : Int32) ≤ v2 ∧ v2 < (40 : Int32) := g2
      refine ok_b0 (s_X5_areSumsOfVotes X hX (v2).toNatClampNeg) (fun v17 w4 => ?_)
      have w5 : (0 : Int32) ≤ v17 ∧ v17 ≤ (1 : Int32) := w4
      refine ok_ite (fun q6 => ?_) (fun q6 => ?_)
      · have pf7 : (0 : Int32) ≤ (0 : Int32) ∧ (0 : Int32) ≤ (1 : Int32) := by
          exact ⟨by grind, by grind⟩
        exact ok_some ⟨hX, pf7⟩
      · have pf8 : FU (v2 + (1 : Int32)) 40 n := by
          have c9 : (0 : Int32) ≤ (X.1 0 0 11) ∧ (X.1 0 0 11) ≤ (40 : Int32) := hX.at1 0 0 11
          exact FU.step hF (by grind)
        have pf10 : (0 : Int32) ≤ (v2 + (1 : Int32)) ∧ (v2 + (1 : Int32)) ≤ (40 : Int32) := by
          have c11 : (0 : Int32) ≤ (X.1 0 0 11) ∧ (X.1 0 0 11) ≤ (40 : Int32) := hX.at1 0 0 11
          exact ⟨by grind, by grind⟩
        exact ih (v2 + (1 : Int32)) k1 pf8 pf10 hk
theorem s_X6_areBeltsSound {A : Nat → Nat → Nat → Prop} {B : SS} (X : SS) (hX : IV A B X) (a1 : ∀ p, A 25 0 p) : ok (f_X6_areBeltsSound X) (fun r => IV A B r.1 ∧ (0 : Int32) ≤ r.2 ∧ r.2 ≤ (1 : Int32)) := by
  unfold f_X6_areBeltsSound
  have pf1 : FU (0 : Int32) 40 1000 := by
    exact FU.start (by grind) (by decide)
  refine s_X6_areBeltsSound_L2 X hX 1000 (0 : Int32) _ pf1 (show (0 : Int32) ≤ (0 : Int32) ∧ (0 : Int32) ≤ (40 : Int32) from ⟨by decide, by decide⟩) (fun _ => ?_)
  have pf2 : FU (0 : Int32) 10 1000 := by
    exact FU.start (by grind) (by decide)
  refine s_X6_areBeltsSound_L32 (fun p => a1 p) 1000 (0 : Int32) X _ pf2 (show (0 : Int32) ≤ (0 : Int32) ∧ (0 : Int32) ≤ (10 : Int32) from ⟨by decide, by decide⟩) hX (fun X4 hX4 => ?_)
  have pf3 : (0 : Int32) ≤ (1 : Int32) ∧ (1 : Int32) ≤ (1 : Int32) := by
    exact ⟨by grind, by grind⟩
  exact ok_some ⟨hX4, pf3⟩
theorem s_X6_isOpenTwice_L2 {A : Nat → Nat → Nat → Prop} {B : SS} (p0 : Int32) (ip0 : (0 : Int32) ≤ p0 ∧ p0 ≤ (7 : Int32)) (X : SS) (hX : IV A B X) : ∀ (n : Nat), ∀ (v2 : Int32) (k1 : (Unit → Option (Int32))), (FU v2 7 n) → ((0 : Int32) ≤ v2 ∧ v2 ≤ (7 : Int32)) → (∀ (k_0 : Unit), ok (k1 k_0) (fun r => (0 : Int32) ≤ r ∧ r ≤ (1 : Int32))) → ok (f_X6_isOpenTwice_L2 p0 X n v2 k1) (fun r => (0 : Int32) ≤ r ∧ r ≤ (1 : Int32)) := by
  intro n
  induction n with
  | zero =>
    intro v2 k1 hF iv2 hk
    exact (FU.stop hF (show v2 ≤ (7 : Int32) by grind)).elim
  | succ n ih =>
    intro v2 k1 hF iv2 hk
    rw [f_X6_isOpenTwice_L2]
    refine ok_ite (fun q1 => ?_) (fun q1 => ?_)
    · exact hk ()
    · refine ok_gd ?_ (fun g2 => ?_)
      · exact vp_of (by decide) (by grind) (show v2 < (8 : Int32) by grind)
      have g2 := vp_to (by decide) g2
      have g2 : (0 : Int32) ≤ v2 ∧ v2 < (8 : Int32) := g2
      refine ok_gd ?_ (fun g3 => ?_)
      · exact vp_of (by decide) (by grind) (show p0 < (8 : Int32) by grind)
      have g3 := vp_to (by decide) g3
      have g3 : (0 : Int32) ≤ p0 ∧ p0 < (8 : Int32) := g3
      refine ok_ite (fun q4 => ?_) (fun q4 => ?_)
      · have pf5 : (0 : Int32) ≤ (1 : Int32) ∧ (1 : Int32) ≤ (1 : Int32) := by
          exact ⟨by grind, by grind⟩
        exact ok_some pf5
      · have pf6 : FU (v2 + (1 : Int32)) 7 n := by
          have c7 : (0 : Int32) ≤ (X.1 24 0 (v2).toNatClampNeg) ∧ (X.1 24 0 (v2).toNatClampNeg) ≤ (39 : Int32) := hX.at1 24 0 ((v2).toNatClampNeg)
          have c8 : (0 : Int32) ≤ (X.1 24 0 (p0).toNatClampNeg) ∧ (X.1 24 0 (p0).toNatClampNeg) ≤ (39 : Int32) := hX.at1 24 0 ((p0).toNatClampNeg)
          exact FU.step hF (by grind)
        have pf9 : (0 : Int32) ≤ (v2 + (1 : Int32)) ∧ (v2 + (1 : Int32)) ≤ (7 : Int32) := by
          have c10 : (0 : Int32) ≤ (X.1 24 0 (v2).toNatClampNeg) ∧ (X.1 24 0 (v2).toNatClampNeg) ≤ (39 : Int32) := hX.at1 24 0 ((v2).toNatClampNeg)
          have c11 : (0 : Int32) ≤ (X.1 24 0 (p0).toNatClampNeg) ∧ (X.1 24 0 (p0).toNatClampNeg) ≤ (39 : Int32) := hX.at1 24 0 ((p0).toNatClampNeg)
          exact ⟨by grind, by grind⟩
        exact ih (v2 + (1 : Int32)) k1 pf6 pf9 hk
theorem s_X6_isOpenTwice {A : Nat → Nat → Nat → Prop} {B : SS} (X : SS) (hX : IV A B X) (p0 : Int32) (ip0 : (0 : Int32) ≤ p0 ∧ p0 ≤ (7 : Int32)) : ok (f_X6_isOpenTwice X p0) (fun r => (0 : Int32) ≤ r ∧ r ≤ (1 : Int32)) := by
  unfold f_X6_isOpenTwice
  have pf1 : (0 : Int32) ≤ p0 ∧ p0 ≤ (7 : Int32) := by
    exact ⟨by grind, by grind⟩
  have pf2 : FU (0 : Int32) 7 1000 := by
    exact FU.start (by grind) (by decide)
  refine s_X6_isOpenTwice_L2 p0 pf1 X hX 1000 (0 : Int32) _ pf2 (show (0 : Int32) ≤ (0 : Int32) ∧ (0 : Int32) ≤ (7 : Int32) from ⟨by decide, by decide⟩) (fun _ => ?_)
  have pf3 : (0 : Int32) ≤ (0 : Int32) ∧ (0 : Int32) ≤ (1 : Int32) := by
    exact ⟨by grind, by grind⟩
  exact ok_some pf3
theorem s_X6_areChallengesSound_L37 {A : Nat → Nat → Nat → Prop} {B : SS} (X : SS) (hX : IV A B X) : ∀ (n : Nat), ∀ (v6 : Int32) (k5 : (Unit → Option (Int32))), (FU v6 8 n) → ((0 : Int32) ≤ v6 ∧ v6 ≤ (8 : Int32)) → (∀ (k_0 : Unit), ok (k5 k_0) (fun r => (0 : Int32) ≤ r ∧ r ≤ (1 : Int32))) → ok (f_X6_areChallengesSound_L37 X n v6 k5) (fun r => (0 : Int32) ≤ r ∧ r ≤ (1 : Int32)) := by
  intro n
  induction n with
  | zero =>
    intro v6 k5 hF iv6 hk
    exact (FU.stop hF (show v6 ≤ (8 : Int32) by grind)).elim
  | succ n ih =>
    intro v6 k5 hF iv6 hk
    rw [f_X6_areChallengesSound_L37]
    refine ok_ite (fun q1 => ?_) (fun q1 => ?_)
    · exact hk ()
    · refine ok_gd ?_ (fun g2 => ?_)
      · have c3 : (0 : Int32) ≤ (X.1 0 0 12) ∧ (X.1 0 0 12) ≤ (8 : Int32) := hX.at1 0 0 12
        exact vp_of (by decide) (by grind) (show v6 < (8 : Int32) by grind)
      have g2 := vp_to (by decide) g2
      have g2 : (0 : Int32) ≤ v6 ∧ v6 < (8 : Int32) := g2
      refine ok_gd ?_ (fun g4 => ?_)
      · have c5 : (0 : Int32) ≤ (X.1 24 0 (v6).toNatClampNeg) ∧ (X.1 24 0 (v6).toNatClampNeg) ≤ (39 : Int32) := hX.at1 24 0 ((v6).toNatClampNeg)
        have c6 : (0 : Int32) ≤ (X.1 0 0 12) ∧ (X.1 0 0 12) ≤ (8 : Int32) := hX.at1 0 0 12
        exact vp_of (by decide) (by grind) (show (X.1 24 0 (v6).toNatClampNeg) < (40 : Int32) by grind)
      have g4 := vp_to (by decide) g4
      have g4 : (0 : Int32) ≤ (X.1 24 0 (v6).toNatClampNeg) ∧ (X.1 24 0 (v6).toNatClampNeg) < (40 : Int32) := g4
      refine ok_ite (fun q7 => ?_) (fun q7 => ?_)
      · have pf8 : (0 : Int32) ≤ v6 ∧ v6 ≤ (7 : Int32) := by
          have c9 : (0 : Int32) ≤ (X.1 0 0 12) ∧ (X.1 0 0 12) ≤ (8 : Int32) := hX.at1 0 0 12
          have c10 : (0 : Int32) ≤ (X.1 24 0 (v6).toNatClampNeg) ∧ (X.1 24 0 (v6).toNatClampNeg) ≤ (39 : Int32) := hX.at1 24 0 ((v6).toNatClampNeg)
          have c11 : (0 : Int32) ≤ (X.1 12 ((X.1 24 0 (v6).toNatClampNeg)).toNatClampNeg 11) ∧ (X.1 12 ((X.1 24 0 (v6).toNatClampNeg)).toNatClampNeg 11) ≤ (65535 : Int32) := hX.at1 12 (((X.1 24 0 (v6).toNatClampNeg)).toNatClampNeg) 11
          exact ⟨by grind, by grind⟩
        refine ok_b0 (s_X6_isOpenTwice X hX v6 pf8) (fun v12 w12 => ?_)
        have w13 : (0 : Int32) ≤ v12 ∧ v12 ≤ (1 : Int32) := w12
        refine ok_ite (fun q14 => ?_) (fun q14 => ?_)
        · have pf15 : FU (v6 + (1 : Int32)) 8 n := by
            have c16 : (0 : Int32) ≤ (X.1 0 0 12) ∧ (X.1 0 0 12) ≤ (8 : Int32) := hX.at1 0 0 12
            have c17 : (0 : Int32) ≤ (X.1 24 0 (v6).toNatClampNeg) ∧ (X.1 24 0 (v6).toNatClampNeg) ≤ (39 : Int32) := hX.at1 24 0 ((v6).toNatClampNeg)
            have c18 : (0 : Int32) ≤ (X.1 12 ((X.1 24 0 (v6).toNatClampNeg)).toNatClampNeg 11) ∧ (X.1 12 ((X.1 24 0 (v6).toNatClampNeg)).toNatClampNeg 11) ≤ (65535 : Int32) := hX.at1 12 (((X.1 24 0 (v6).toNatClampNeg)).toNatClampNeg) 11
            exact FU.step hF (by grind)
          have pf19 : (0 : Int32) ≤ (v6 + (1 : Int32)) ∧ (v6 + (1 : Int32)) ≤ (8 : Int32) := by
            have c20 : (0 : Int32) ≤ (X.1 0 0 12) ∧ (X.1 0 0 12) ≤ (8 : Int32) := hX.at1 0 0 12
            have c21 : (0 : Int32) ≤ (X.1 24 0 (v6).toNatClampNeg) ∧ (X.1 24 0 (v6).toNatClampNeg) ≤ (39 : Int32) := hX.at1 24 0 ((v6).toNatClampNeg)
            have c22 : (0 : Int32) ≤ (X.1 12 ((X.1 24 0 (v6).toNatClampNeg)).toNatClampNeg 11) ∧ (X.1 12 ((X.1 24 0 (v6).toNatClampNeg)).toNatClampNeg 11) ≤ (65535 : Int32) := hX.at1 12 (((X.1 24 0 (v6).toNatClampNeg)).toNatClampNeg) 11
            exact ⟨by grind, by grind⟩
          exact ih (v6 + (1 : Int32)) k5 pf15 pf19 hk
        · have pf23 : (0 : Int32) ≤ (0 : Int32) ∧ (0 : Int32) ≤ (1 : Int32) := by
            exact ⟨by grind, by grind⟩
          exact ok_some pf23
      · have pf24 : (0 : Int32) ≤ (0 : Int32) ∧ (0 : Int32) ≤ (1 : Int32) := by
          exact ⟨by grind, by grind⟩
        exact ok_some pf24
theorem s_X6_areChallengesSound_L4 {A : Nat → Nat → Nat → Prop} {B : SS} (X : SS) (hX : IV A B X) : ∀ (n : Nat), ∀ (v3 : Int32) (v4 : Int32) (k1 : (Int32 → Option (Int32))), (FU v3 40 n) → ((0 : Int32) ≤ v3 ∧ v3 ≤ (40 : Int32)) → (∀ (k_0 : Int32), ok (k1 k_0) (fun r => (0 : Int32) ≤ r ∧ r ≤ (1 : Int32))) → ok (f_X6_areChallengesSound_L4 X n v3 v4 k1) (fun r => (0 : Int32) ≤ r ∧ r ≤ (1 : Int32)) := by
  intro n
  induction n with
  | zero =>
    intro v3 v4 k1 hF iv3 hk
    exact (FU.stop hF (show v3 ≤ (40 : Int32) by grind)).elim
  | succ n ih =>
    intro v3 v4 k1 hF iv3 hk
    rw [f_X6_areChallengesSound_L4]
    refine ok_ite (fun q1 => ?_) (fun q1 => ?_)
    · exact hk v4
    · refine ok_gd ?_ (fun g2 => ?_)
      · have c3 : (0 : Int32) ≤ (X.1 0 0 11) ∧ (X.1 0 0 11) ≤ (40 : Int32) := hX.at1 0 0 11
        exact vp_of (by decide) (by grind) (show v3 < (40 : Int32) by grind)
      have g2 := vp_to (by decide) g2
      have g2 : (0 : Int32) ≤ v3 ∧ v3 < (40 : Int32) := g2
      refine ok_ite (fun q4 => ?_) (fun q4 => ?_)
      · have pf5 : FU (v3 + (1 : Int32)) 40 n := by
          have c6 : (0 : Int32) ≤ (X.1 0 0 11) ∧ (X.1 0 0 11) ≤ (40 : Int32) := hX.at1 0 0 11
          have c7 : (0 : Int32) ≤ (X.1 12 (v3).toNatClampNeg 11) ∧ (X.1 12 (v3).toNatClampNeg 11) ≤ (65535 : Int32) := hX.at1 12 ((v3).toNatClampNeg) 11
          exact FU.step hF (by grind)
        have pf8 : (0 : Int32) ≤ (v3 + (1 : Int32)) ∧ (v3 + (1 : Int32)) ≤ (40 : Int32) := by
          have c9 : (0 : Int32) ≤ (X.1 0 0 11) ∧ (X.1 0 0 11) ≤ (40 : Int32) := hX.at1 0 0 11
          have c10 : (0 : Int32) ≤ (X.1 12 (v3).toNatClampNeg 11) ∧ (X.1 12 (v3).toNatClampNeg 11) ≤ (65535 : Int32) := hX.at1 12 ((v3).toNatClampNeg) 11
          exact ⟨by grind, by grind⟩
        exact ih (v3 + (1 : Int32)) (v4 + (1 : Int32)) k1 pf5 pf8 hk
      · have pf11 : FU (v3 + (1 : Int32)) 40 n := by
          have c12 : (0 : Int32) ≤ (X.1 0 0 11) ∧ (X.1 0 0 11) ≤ (40 : Int32) := hX.at1 0 0 11
          have c13 : (0 : Int32) ≤ (X.1 12 (v3).toNatClampNeg 11) ∧ (X.1 12 (v3).toNatClampNeg 11) ≤ (65535 : Int32) := hX.at1 12 ((v3).toNatClampNeg) 11
          exact FU.step hF (by grind)
        have pf14 : (0 : Int32) ≤ (v3 + (1 : Int32)) ∧ (v3 + (1 : Int32)) ≤ (40 : Int32) := by
          have c15 : (0 : Int32) ≤ (X.1 0 0 11) ∧ (X.1 0 0 11) ≤ (40 : Int32) := hX.at1 0 0 11
          have c16 : (0 : Int32) ≤ (X.1 12 (v3).toNatClampNeg 11) ∧ (X.1 12 (v3).toNatClampNeg 11) ≤ (65535 : Int32) := hX.at1 12 ((v3).toNatClampNeg) 11
          exact ⟨by grind, by grind⟩
        exact ih (v3 + (1 : Int32)) v4 k1 pf11 pf14 hk
theorem s_X6_areChallengesSound {A : Nat → Nat → Nat → Prop} {B : SS} (X : SS) (hX : IV A B X) : ok (f_X6_areChallengesSound X) (fun r => (0 : Int32) ≤ r ∧ r ≤ (1 : Int32)) := by
  unfold f_X6_areChallengesSound
  have pf1 : FU (0 : Int32) 40 1000 := by
    exact FU.start (by grind) (by decide)
  refine s_X6_areChallengesSound_L4 X hX 1000 (0 : Int32) (0 : Int32) _ pf1 (show (0 : Int32) ≤ (0 : Int32) ∧ (0 : Int32) ≤ (40 : Int32) from ⟨by decide, by decide⟩) (fun v2 => ?_)
  have pf2 : FU (0 : Int32) 8 1000 := by
    exact FU.start (by grind) (by decide)
  refine s_X6_areChallengesSound_L37 X hX 1000 (0 : Int32) _ pf2 (show (0 : Int32) ≤ (0 : Int32) ∧ (0 : Int32) ≤ (8 : Int32) from ⟨by decide, by decide⟩) (fun _ => ?_)
  refine ok_ite (fun q3 => ?_) (fun q3 => ?_)
  · have pf4 : (0 : Int32) ≤ (1 : Int32) ∧ (1 : Int32) ≤ (1 : Int32) := by
      exact ⟨by grind, by grind⟩
    exact ok_some pf4
  · have pf5 : (0 : Int32) ≤ (0 : Int32) ∧ (0 : Int32) ≤ (1 : Int32) := by
      exact ⟨by grind, by grind⟩
    exact ok_some pf5
theorem s_X6_isSound {A : Nat → Nat → Nat → Prop} {B : SS} (X : SS) (hX : IV A B X) (a1 : A 16 1 4) (a2 : A 16 1 5) (a3 : A 16 1 6) (a4 : A 16 1 7) (a5 : A 16 1 8) (a6 : ∀ p, A 17 1 p) (a7 : ∀ p, A 18 1 p) (a8 : ∀ p, A 19 1 p) (a9 : ∀ p, A 20 1 p) (a10 : ∀ p, A 25 0 p) : ok (f_X6_isSound X) (fun r => IV A B r.1 ∧ (0 : Int32) ≤ r.2 ∧ r.2 ≤ (1 : Int32)) := by
  unfold f_X6_isSound
  refine ok_b0 (s_X6_bodyCount X hX) (fun v1 w1 => ?_)
  have w2 : ((0 : Int32) ≤ v1 ∧ v1 ≤ (40 : Int32)) := w1
  refine ok_ite (fun q3 => ?_) (fun q3 => ?_)
  · have pf4 : (0 : Int32) ≤ (0 : Int32) ∧ (0 : Int32) ≤ (1 : Int32) := by
      exact ⟨by grind, by grind⟩
    exact ok_some ⟨hX, pf4⟩
  · refine ok_b1 (s_X6_areBodiesSound X hX (a1) (a2) (a3) (a4) (a5) (fun p => a6 p) (fun p => a7 p) (fun p => a8 p) (fun p => a9 p)) (fun X5 v4 w5 => ?_)
    have hX5 : IV A B X5 := w5.1
    have w6 : (0 : Int32) ≤ v4 ∧ v4 ≤ (1 : Int32) := w5.2
    refine ok_ite (fun q7 => ?_) (fun q7 => ?_)
    · have pf8 : (0 : Int32) ≤ (0 : Int32) ∧ (0 : Int32) ≤ (1 : Int32) := by
        exact ⟨by grind, by grind⟩
      exact ok_some ⟨hX5, pf8⟩
    · refine ok_b1 (s_X6_areBeltsSound X5 hX5 (fun p => a10 p)) (fun X9 v8 w9 => ?_)
      have hX9 : IV A B X9 := w9.1
      have w10 : (0 : Int32) ≤ v8 ∧ v8 ≤ (1 : Int32) := w9.2
      refine ok_ite (fun q11 => ?_) (fun q11 => ?_)
      · have pf12 : (0 : Int32) ≤ (0 : Int32) ∧ (0 : Int32) ≤ (1 : Int32) := by
          exact ⟨by grind, by grind⟩
        exact ok_some ⟨hX9, pf12⟩
      · refine ok_b0 (s_X6_areChallengesSound X9 hX9) (fun v12 w13 => ?_)
        have w14 : (0 : Int32) ≤ v12 ∧ v12 ≤ (1 : Int32) := w13
        refine ok_ite (fun q15 => ?_) (fun q15 => ?_)
        · have pf16 : (0 : Int32) ≤ (0 : Int32) ∧ (0 : Int32) ≤ (1 : Int32) := by
            exact ⟨by grind, by grind⟩
          exact ok_some ⟨hX9, pf16⟩
        · have pf17 : (0 : Int32) ≤ (1 : Int32) ∧ (1 : Int32) ≤ (1 : Int32) := by
            exact ⟨by grind, by grind⟩
          exact ok_some ⟨hX9, pf17⟩
theorem s_X7_thrown {A : Nat → Nat → Nat → Prop} {B : SS} (M : SS) (hM : IV A B M) : ok (f_X7_thrown M) (fun r => (0 : Int32) ≤ r ∧ r ≤ (3 : Int32)) := by
  unfold f_X7_thrown
  have pf1 : (0 : Int32) ≤ (M.1 26 0 9) ∧ (M.1 26 0 9) ≤ (3 : Int32) := by
    have c2 : (0 : Int32) ≤ (M.1 26 0 9) ∧ (M.1 26 0 9) ≤ (3 : Int32) := hM.at1 26 0 9
    exact ⟨by grind, by grind⟩
  exact ok_some pf1
theorem s_X7_in (p0 : Int32) (p1 : Int32) (ip1 : ((-999) : Int32) ≤ p1 ∧ p1 ≤ (1 : Int32)) (p2 : Int32) (ip2 : ((-1) : Int32) ≤ p2 ∧ p2 ≤ (999 : Int32)) : ok (f_X7_in p0 p1 p2) (fun r => (0 : Int32) ≤ r ∧ r ≤ (1 : Int32) ∧ ((r = 0 ∧ (p0 < p1 ∨ p2 < p0)) ∨ (r = 1 ∧ p1 ≤ p0 ∧ p0 ≤ p2))) := by
  unfold f_X7_in
  refine ok_ite (fun q1 => ?_) (fun q1 => ?_)
  · have pf2 : (0 : Int32) ≤ (0 : Int32) ∧ (0 : Int32) ≤ (1 : Int32) ∧ (((0 : Int32) = 0 ∧ (p0 < p1 ∨ p2 < p0)) ∨ ((0 : Int32) = 1 ∧ p1 ≤ p0 ∧ p0 ≤ p2)) := by
      grind
    exact ok_some pf2
  · refine ok_ite (fun q3 => ?_) (fun q3 => ?_)
    · have pf4 : (0 : Int32) ≤ (0 : Int32) ∧ (0 : Int32) ≤ (1 : Int32) ∧ (((0 : Int32) = 0 ∧ (p0 < p1 ∨ p2 < p0)) ∨ ((0 : Int32) = 1 ∧ p1 ≤ p0 ∧ p0 ≤ p2)) := by
        grind
      exact ok_some pf4
    · have pf5 : (0 : Int32) ≤ (1 : Int32) ∧ (1 : Int32) ≤ (1 : Int32) ∧ (((1 : Int32) = 0 ∧ (p0 < p1 ∨ p2 < p0)) ∨ ((1 : Int32) = 1 ∧ p1 ≤ p0 ∧ p0 ≤ p2)) := by
        grind
      exact ok_some pf5
theorem s_X7_fails {A : Nat → Nat → Nat → Prop} {B : SS} (M : SS) (hM : IV A B M) (p0 : Int32) (ip0 : (1 : Int32) ≤ p0 ∧ p0 ≤ (3 : Int32)) (a1 : A 26 0 9) : ok (f_X7_fails M p0) (fun r => IV A B r.1 ∧ (0 : Int32) ≤ r.2 ∧ r.2 ≤ (0 : Int32)) := by
  unfold f_X7_fails
  refine ok_lq (fun M1 eq_1 => ?_)
  have pf2 : (0 : Int32) ≤ p0 ∧ p0 ≤ (3 : Int32) := by
    exact ⟨by grind, by grind⟩
  have hM1 : IV A B M1 := by rw [eq_1]; exact hM.w1 rfl (a1) pf2
  have pf3 : (0 : Int32) ≤ (0 : Int32) ∧ (0 : Int32) ≤ (0 : Int32) := by
    exact ⟨by grind, by grind⟩
  exact ok_some ⟨hM1, pf3⟩
theorem s_X7_tells {A : Nat → Nat → Nat → Prop} {B : SS} (M : SS) (hM : IV A B M) (p0 : Int32) (a1 : A 26 0 9) : ok (f_X7_tells M p0) (fun r => IV A B r.1 ∧ True) := by
  unfold f_X7_tells
  refine ok_lq (fun M1 eq_1 => ?_)
  have hM1 : IV A B M1 := by rw [eq_1]; exact hM.w1 rfl (a1) (show (0 : Int32) ≤ (0 : Int32) ∧ (0 : Int32) ≤ (3 : Int32) from ⟨by decide, by decide⟩)
  exact ok_some ⟨hM1, trivial⟩
theorem s_X7_isOneOf (p0 : Int32) (p1 : Int32) (ip1 : (42 : Int32) ≤ p1 ∧ p1 ≤ (112 : Int32)) (p2 : Int32) (ip2 : (37 : Int32) ≤ p2 ∧ p2 ≤ (111 : Int32)) (p3 : Int32) (ip3 : (42 : Int32) ≤ p3 ∧ p3 ≤ (100 : Int32)) (p4 : Int32) (ip4 : (37 : Int32) ≤ p4 ∧ p4 ≤ (115 : Int32)) : ok (f_X7_isOneOf p0 p1 p2 p3 p4) (fun r => (0 : Int32) ≤ r ∧ r ≤ (1 : Int32) ∧ ((r = 1 ∧ (p0 = p1 ∨ p0 = p2 ∨ p0 = p3 ∨ p0 = p4)) ∨ (r = 0 ∧ ¬ p0 = p1 ∧ ¬ p0 = p2 ∧ ¬ p0 = p3 ∧ ¬ p0 = p4))) := by
  unfold f_X7_isOneOf
  refine ok_ite (fun q1 => ?_) (fun q1 => ?_)
  · have pf2 : (0 : Int32) ≤ (1 : Int32) ∧ (1 : Int32) ≤ (1 : Int32) ∧ (((1 : Int32) = 1 ∧ (p0 = p1 ∨ p0 = p2 ∨ p0 = p3 ∨ p0 = p4)) ∨ ((1 : Int32) = 0 ∧ ¬ p0 = p1 ∧ ¬ p0 = p2 ∧ ¬ p0 = p3 ∧ ¬ p0 = p4)) := by
      grind
    exact ok_some pf2
  · refine ok_ite (fun q3 => ?_) (fun q3 => ?_)
    · have pf4 : (0 : Int32) ≤ (1 : Int32) ∧ (1 : Int32) ≤ (1 : Int32) ∧ (((1 : Int32) = 1 ∧ (p0 = p1 ∨ p0 = p2 ∨ p0 = p3 ∨ p0 = p4)) ∨ ((1 : Int32) = 0 ∧ ¬ p0 = p1 ∧ ¬ p0 = p2 ∧ ¬ p0 = p3 ∧ ¬ p0 = p4)) := by
        grind
      exact ok_some pf4
    · refine ok_ite (fun q5 => ?_) (fun q5 => ?_)
      · have pf6 : (0 : Int32) ≤ (1 : Int32) ∧ (1 : Int32) ≤ (1 : Int32) ∧ (((1 : Int32) = 1 ∧ (p0 = p1 ∨ p0 = p2 ∨ p0 = p3 ∨ p0 = p4)) ∨ ((1 : Int32) = 0 ∧ ¬ p0 = p1 ∧ ¬ p0 = p2 ∧ ¬ p0 = p3 ∧ ¬ p0 = p4)) := by
          grind
        exact ok_some pf6
      · refine ok_ite (fun q7 => ?_) (fun q7 => ?_)
        · have pf8 : (0 : Int32) ≤ (1 : Int32) ∧ (1 : Int32) ≤ (1 : Int32) ∧ (((1 : Int32) = 1 ∧ (p0 = p1 ∨ p0 = p2 ∨ p0 = p3 ∨ p0 = p4)) ∨ ((1 : Int32) = 0 ∧ ¬ p0 = p1 ∧ ¬ p0 = p2 ∧ ¬ p0 = p3 ∧ ¬ p0 = p4)) := by
            grind
          exact ok_some pf8
        · have pf9 : (0 : Int32) ≤ (0 : Int32) ∧ (0 : Int32) ≤ (1 : Int32) ∧ (((0 : Int32) = 1 ∧ (p0 = p1 ∨ p0 = p2 ∨ p0 = p3 ∨ p0 = p4)) ∨ ((0 : Int32) = 0 ∧ ¬ p0 = p1 ∧ ¬ p0 = p2 ∧ ¬ p0 = p3 ∧ ¬ p0 = p4)) := by
            grind
          exact ok_some pf9
theorem s_X7_isLetter (p0 : Int32) : ok (f_X7_isLetter p0) (fun r => (0 : Int32) ≤ r ∧ r ≤ (1 : Int32) ∧ ((r = 1 ∧ isL p0) ∨ (r = 0 ∧ ¬ isL p0))) := by
  unfold f_X7_isLetter
  refine ok_b0 (s_X7_isOneOf p0 (110 : Int32) (show (42 : Int32) ≤ (110 : Int32) ∧ (110 : Int32) ≤ (112 : Int32) from ⟨by decide, by decide⟩) (105 : Int32) (show (37 : Int32) ≤ (105 : Int32) ∧ (105 : Int32) ≤ (111 : Int32) from ⟨by decide, by decide⟩) (43 : Int32) (show (42 : Int32) ≤ (43 : Int32) ∧ (43 : Int32) ≤ (100 : Int32) from ⟨by decide, by decide⟩) (45 : Int32) (show (37 : Int32) ≤ (45 : Int32) ∧ (45 : Int32) ≤ (115 : Int32) from ⟨by decide, by decide⟩)) (fun v1 w1 => ?_)
  have w2 : (0 : Int32) ≤ v1 ∧ v1 ≤ (1 : Int32) ∧ ((v1 = 1 ∧ (p0 = (110 : Int32) ∨ p0 = (105 : Int32) ∨ p0 = (43 : Int32) ∨ p0 = (45 : Int32))) ∨ (v1 = 0 ∧ ¬ p0 = (110 : Int32) ∧ ¬ p0 = (105 : Int32) ∧ ¬ p0 = (43 : Int32) ∧ ¬ p0 = (45 : Int32))) := w1
  refine ok_ite (fun q3 => ?_) (fun q3 => ?_)
  · refine ok_b0 (s_X7_isOneOf p0 (42 : Int32) (show (42 : Int32) ≤ (42 : Int32) ∧ (42 : Int32) ≤ (112 : Int32) from ⟨by decide, by decide⟩) (37 : Int32) (show (37 : Int32) ≤ (37 : Int32) ∧ (37 : Int32) ≤ (111 : Int32) from ⟨by decide, by decide⟩) (100 : Int32) (show (42 : Int32) ≤ (100 : Int32) ∧ (100 : Int32) ≤ (100 : Int32) from ⟨by decide, by decide⟩) (115 : Int32) (show (37 : Int32) ≤ (115 : Int32) ∧ (115 : Int32) ≤ (115 : Int32) from ⟨by decide, by decide⟩)) (fun v4 w4 => ?_)
    have w5 : (0 : Int32) ≤ v4 ∧ v4 ≤ (1 : Int32) ∧ ((v4 = 1 ∧ (p0 = (42 : Int32) ∨ p0 = (37 : Int32) ∨ p0 = (100 : Int32) ∨ p0 = (115 : Int32))) ∨ (v4 = 0 ∧ ¬ p0 = (42 : Int32) ∧ ¬ p0 = (37 : Int32) ∧ ¬ p0 = (100 : Int32) ∧ ¬ p0 = (115 : Int32))) := w4
    refine ok_ite (fun q6 => ?_) (fun q6 => ?_)
    · refine ok_b0 (s_X7_isOneOf p0 (112 : Int32) (show (42 : Int32) ≤ (112 : Int32) ∧ (112 : Int32) ≤ (112 : Int32) from ⟨by decide, by decide⟩) (111 : Int32) (show (37 : Int32) ≤ (111 : Int32) ∧ (111 : Int32) ≤ (111 : Int32) from ⟨by decide, by decide⟩) (91 : Int32) (show (42 : Int32) ≤ (91 : Int32) ∧ (91 : Int32) ≤ (100 : Int32) from ⟨by decide, by decide⟩) (93 : Int32) (show (37 : Int32) ≤ (93 : Int32) ∧ (93 : Int32) ≤ (115 : Int32) from ⟨by decide, by decide⟩)) (fun v7 w7 => ?_)
      have w8 : (0 : Int32) ≤ v7 ∧ v7 ≤ (1 : Int32) ∧ ((v7 = 1 ∧ (p0 = (112 : Int32) ∨ p0 = (111 : Int32) ∨ p0 = (91 : Int32) ∨ p0 = (93 : Int32))) ∨ (v7 = 0 ∧ ¬ p0 = (112 : Int32) ∧ ¬ p0 = (111 : Int32) ∧ ¬ p0 = (91 : Int32) ∧ ¬ p0 = (93 : Int32))) := w7
      refine ok_ite (fun q9 => ?_) (fun q9 => ?_)
      · have pf10 : (0 : Int32) ≤ (0 : Int32) ∧ (0 : Int32) ≤ (1 : Int32) ∧ (((0 : Int32) = 1 ∧ isL p0) ∨ ((0 : Int32) = 0 ∧ ¬ isL p0)) := by
          grind [isL]
        exact ok_some pf10
      · have pf11 : (0 : Int32) ≤ (1 : Int32) ∧ (1 : Int32) ≤ (1 : Int32) ∧ (((1 : Int32) = 1 ∧ isL p0) ∨ ((1 : Int32) = 0 ∧ ¬ isL p0)) := by
          grind [isL]
        exact ok_some pf11
    · have pf12 : (0 : Int32) ≤ (1 : Int32) ∧ (1 : Int32) ≤ (1 : Int32) ∧ (((1 : Int32) = 1 ∧ isL p0) ∨ ((1 : Int32) = 0 ∧ ¬ isL p0)) := by
        grind [isL]
      exact ok_some pf12
  · have pf13 : (0 : Int32) ≤ (1 : Int32) ∧ (1 : Int32) ≤ (1 : Int32) ∧ (((1 : Int32) = 1 ∧ isL p0) ∨ ((1 : Int32) = 0 ∧ ¬ isL p0)) := by
      grind [isL]
    exact ok_some pf13
theorem lv_step {M M16 : SS} {x y : Int32} (h : LV M) (h0 : 0 ≤ M.1 26 0 0) (ht : M.1 26 0 0 < 24) (hx : isL x) (e27 : ∀ p, M16.1 27 0 p = if p = ((960 : Int32) + M.1 26 0 0).toNatClampNeg then x else M.1 27 0 p) (e29 : ∀ p, M16.1 29 0 p = if p = 40 then M.1 26 0 0 + 1 else M.1 29 0 p) (e26 : M16.1 26 0 0 = M.1 26 0 0 + 1) : LV M16 := by
  obtain ⟨t, htt, et⟩ := nI_of (x := M.1 26 0 0) (by grind)
  rw [et] at ht
  have h1 := (nI_ltI htt (by decide : (24 : Nat) < 2 ^ 31)).mp ht
  have e960 : ((960 : Int32) + M.1 26 0 0).toNatClampNeg = 960 + t := by
    rw [et, show (960 : Int32) = nI 960 from rfl, nI_add, nI_clamp (by omega)]
  refine ⟨?_, fun r a hr ha hs => ?_⟩
  · rw [e29, if_pos rfl, e26]
  · rw [e29] at hs
    rw [e27, e960]
    by_cases hr4 : r = 40
    · subst hr4
      rw [if_pos rfl, et, nI_1, nI_ltI (by omega) (by omega)] at hs
      by_cases hat : a = t
      · subst hat
        rw [if_pos (by omega)]
        exact hx
      · rw [if_neg (by omega)]
        refine h.2 40 a hr ha ?_
        rw [h.1, et, nI_ltI (by omega) htt]
        omega
    · rw [if_neg hr4] at hs
      rw [if_neg (by omega)]
      exact h.2 r a hr ha hs
theorem up_e {X : SS} {k i p k0 i0 p0 : Nat} {x : Int32} : (u1 X k0 i0 p0 x).1 k i p = if k = k0 ∧ i = i0 ∧ p = p0 then x else X.1 k i p := rfl
theorem s_step_J84 {A : Nat → Nat → Nat → Prop} {B : SS} {M M10 : SS} {p0 v11 : Int32} (hM : IV A B M) (ht : M.1 26 0 0 < 24) (hp : isL p0) (e10 : M10 = u1 M 27 0 ((960 : Int32) + M.1 26 0 0).toNatClampNeg (vp_nar .char p0)) (h10 : IV0 A B M10) (a26 : A 26 0 0) (a269 : A 26 0 9) (a28 : ∀ p, A 28 0 p) (a29 : A 29 0 40) : ok (f_X7_step_J84 M10 v11) (fun r => IV A B r.1 ∧ True) := by
  have ht0 : (0 : Int32) ≤ M.1 26 0 0 ∧ M.1 26 0 0 ≤ (24 : Int32) := hM.at1 26 0 0
  have et : M10.1 26 0 0 = M.1 26 0 0 := by rw [e10]; exact up_k (by decide)
  unfold f_X7_step_J84
  refine ok_gd ?_ (fun g => ?_)
  · rw [et]
    exact vp_of (by decide) (by grind) (show (960 : Int32) + M.1 26 0 0 < (984 : Int32) by grind)
  refine ok_lq (fun M14 e14 => ok_lq (fun M15 e15 => ok_lq (fun M16 e16 => ?_)))
  have h14 : IV0 A B M14 := by rw [e14]; exact h10.w1f rfl (a28 _)
  have t14 : M14.1 26 0 0 = M.1 26 0 0 := by rw [e14, up_k (by decide), et]
  have h15 : IV0 A B M15 := by rw [e15, t14]; exact h14.w1 a26 (show (0 : Int32) ≤ M.1 26 0 0 + 1 ∧ M.1 26 0 0 + 1 ≤ (24 : Int32) from ⟨by grind, by grind⟩)
  have t15 : M15.1 26 0 0 = M.1 26 0 0 + 1 := by rw [e15, up_s, t14]
  have h16 : IV0 A B M16 := by rw [e16, t15]; exact h15.w1 a29 (show (0 : Int32) ≤ M.1 26 0 0 + 1 ∧ M.1 26 0 0 + 1 ≤ (24 : Int32) from ⟨by grind, by grind⟩)
  have hL : LV M16 := by
    refine lv_step (y := 0) hM.2 ht0.1 ht hp (fun p => ?_) (fun p => ?_) ?_
    · rw [e16, up_k (by decide), e15, up_k (by decide), e14, up_k (by decide), e10, up_e, nar_isL hp]
      by_cases z : p = ((960 : Int32) + M.1 26 0 0).toNatClampNeg
      · rw [if_pos ⟨rfl, rfl, z⟩, if_pos z]
      · rw [if_neg (fun q => z q.2.2), if_neg z]
    · rw [e16, up_e, t15, show ((40 : Int32)).toNatClampNeg = 40 from rfl]
      by_cases z : p = 40
      · rw [if_pos ⟨rfl, rfl, z⟩, if_pos z]
      · rw [if_neg (fun q => z q.2.2), if_neg z, e15, up_k (by decide), e14, up_k (by decide), e10, up_k (by decide)]
    · rw [e16, up_k (by decide), t15]
  exact ok_b1 (s_X7_tells M16 ⟨h16, hL⟩ _ a269) (fun M18 v17 w => ok_some ⟨w.1, trivial⟩)
theorem s_step_J32 {A : Nat → Nat → Nat → Prop} {B : SS} {M : SS} {p0 p1 : Int32} (hM : IV A B M) (hp : isL p0) (a26 : A 26 0 0) (a269 : A 26 0 9) (a27 : ∀ p, A 27 0 p) (a28 : ∀ p, A 28 0 p) (a29 : A 29 0 40) : ok (f_X7_step_J32 M p0 p1) (fun r => IV A B r.1 ∧ True) := by
  have ht0 : (0 : Int32) ≤ M.1 26 0 0 ∧ M.1 26 0 0 ≤ (24 : Int32) := hM.at1 26 0 0
  unfold f_X7_step_J32
  refine ok_ite (fun q => ?_) (fun q => ?_)
  · exact ok_b1 (s_X7_fails M hM _ (by decide) a269) (fun M22 v w => ok_some ⟨w.1, trivial⟩)
  · refine ok_gd (vp_of (by decide) (by grind) (show (960 : Int32) + M.1 26 0 0 < (984 : Int32) by grind)) (fun g => ok_lq (fun M10 e10 => ?_))
    have h10 : IV0 A B M10 := by rw [e10]; exact hM.1.w1 (a27 _) (nar_c _)
    have ht : M.1 26 0 0 < 24 := by grind
    exact ok_ite (fun q => s_step_J84 hM ht hp e10 h10 a26 a269 a28 a29) (fun q => s_step_J84 hM ht hp e10 h10 a26 a269 a28 a29)
theorem s_X7_step {A : Nat → Nat → Nat → Prop} {B : SS} (M : SS) (hM : IV A B M) (p0 : Int32) (p1 : Int32) (a1 : A 26 0 0) (a2 : A 26 0 9) (a3 : ∀ p, A 27 0 p) (a4 : ∀ p, A 28 0 p) (a5 : A 29 0 40) : ok (f_X7_step M p0 p1) (fun r => IV A B r.1 ∧ True) := by
  unfold f_X7_step
  refine ok_b0 (s_X7_isLetter p0) (fun v1 w => ?_)
  refine ok_ite (fun q => ?_) (fun q => ?_)
  · exact ok_b1 (s_X7_fails M hM _ (by decide) a2) (fun M22 v w => ok_some ⟨w.1, trivial⟩)
  · have hp : isL p0 := by
      have w1 := w.2.2
      rcases w1 with h | h
      · exact h.2
      · exact absurd h.1 q
    refine ok_ite (fun q2 => ?_) (fun q2 => ?_)
    · refine ok_b0 (s_X7_in p1 _ (by decide) _ (by decide)) (fun v25 w => ?_)
      refine ok_ite (fun q => ?_) (fun q => ?_)
      · exact ok_b1 (s_X7_fails M hM _ (by decide) a2) (fun M22 v w => ok_some ⟨w.1, trivial⟩)
      · exact s_step_J32 hM hp a1 a2 a3 a4 a5
    · exact s_step_J32 hM hp a1 a2 a3 a4 a5
theorem s_X7_wipe {A : Nat → Nat → Nat → Prop} {B : SS} (M : SS) (hM : IV A B M) (a1 : A 26 0 0) (a2 : A 26 0 9) (a3 : A 29 0 40) : ok (f_X7_wipe M) (fun r => IV A B r.1 ∧ True) := by
  unfold f_X7_wipe
  refine ok_lq (fun v1 e1 => ok_lq (fun M2 e2 => ok_lq (fun M3 e3 => ?_)))
  have h2 : IV0 A B M2 := by rw [e2]; exact hM.1.w1 a1 ⟨by decide, by decide⟩
  have h3 : IV0 A B M3 := by rw [e3]; exact h2.w1 a3 ⟨by decide, by decide⟩
  have hL : LV M3 := by
    refine ⟨?_, fun r a hr ha hs => ?_⟩
    · rw [e3, show ((40 : Int32)).toNatClampNeg = 40 from rfl, up_s, up_k (by decide), e2, up_s]
    · have e27 : ∀ p, M3.1 27 0 p = M.1 27 0 p := fun p => by rw [e3, up_k (by decide), e2, up_k (by decide)]
      rw [e27]
      by_cases hr4 : r = 40
      · subst hr4
        rw [e3, show ((40 : Int32)).toNatClampNeg = 40 from rfl, up_s] at hs
        exact absurd hs (nI_pos (by omega))
      · rw [e3, show ((40 : Int32)).toNatClampNeg = 40 from rfl, up_p hr4, e2, up_k (by decide)] at hs
        exact hM.2.2 r a hr ha hs
  exact ok_b1 (s_X7_tells M3 ⟨h3, hL⟩ _ a2) (fun M5 v4 w => ok_some ⟨w.1, trivial⟩)
theorem s_X7_number {A : Nat → Nat → Nat → Prop} {B : SS} (M : SS) (hM : IV A B M) (p0 : Int32) (p1 : Int32) (a1 : A 26 0 1) (a2 : A 26 0 2) (a3 : A 26 0 9) (a4 : ∀ p, A 30 0 p) (a5 : ∀ p, A 31 0 p) : ok (f_X7_number M p0 p1) (fun r => IV A B r.1 ∧ True) := by
  unfold f_X7_number
  refine ok_b0 (s_X7_in p0 ((-999) : Int32) (show ((-999) : Int32) ≤ ((-999) : Int32) ∧ ((-999) : Int32) ≤ (1 : Int32) from ⟨by decide, by decide⟩) (999 : Int32) (show ((-1) : Int32) ≤ (999 : Int32) ∧ (999 : Int32) ≤ (999 : Int32) from ⟨by decide, by decide⟩)) (fun v1 w1 => ?_)
  have w2 : (0 : Int32) ≤ v1 ∧ v1 ≤ (1 : Int32) ∧ ((v1 = 0 ∧ (p0 < ((-999) : Int32) ∨ (999 : Int32) < p0)) ∨ (v1 = 1 ∧ ((-999) : Int32) ≤ p0 ∧ p0 ≤ (999 : Int32))) := w1
  refine ok_ite (fun q3 => ?_) (fun q3 => ?_)
  · refine ok_b1 (s_X7_fails M hM (1 : Int32) (show (1 : Int32) ≤ (1 : Int32) ∧ (1 : Int32) ≤ (3 : Int32) from ⟨by decide, by decide⟩) (a3)) (fun M28 v27 w4 => ?_)
    have hM28 : IV A B M28 := w4.1
    have w5 : (0 : Int32) ≤ v27 ∧ v27 ≤ (0 : Int32) := w4.2
    exact ok_some ⟨hM28, trivial⟩
  · refine ok_ite (fun q6 => ?_) (fun q6 => ?_)
    · refine ok_ite (fun q7 => ?_) (fun q7 => ?_)
      · refine ok_b1 (s_X7_fails M hM (2 : Int32) (show (1 : Int32) ≤ (2 : Int32) ∧ (2 : Int32) ≤ (3 : Int32) from ⟨by decide, by decide⟩) (a3)) (fun M21 v20 w8 => ?_)
        have hM21 : IV A B M21 := w8.1
        have w9 : (0 : Int32) ≤ v20 ∧ v20 ≤ (0 : Int32) := w8.2
        exact ok_some ⟨hM21, trivial⟩
      · unfold f_X7_number_J49
        refine ok_ite (fun q10 => ?_) (fun q10 => ?_)
        · refine ok_gd ?_ (fun g11 => ?_)
          · have c12 : (0 : Int32) ≤ (M.1 26 0 1) ∧ (M.1 26 0 1) ≤ (4 : Int32) := hM.at1 26 0 1
            exact vp_of (by decide) (by grind) (show (M.1 26 0 1) < (4 : Int32) by grind)
          have g11 := vp_to (by decide) g11
          have g11 : (0 : Int32) ≤ (M.1 26 0 1) ∧ (M.1 26 0 1) < (4 : Int32) := g11
          refine ok_lq (fun M7 eq_13 => ?_)
          have hM7 : IV A B M7 := by rw [eq_13]; exact hM.w1f rfl (a4 (((M.1 26 0 1)).toNatClampNeg)) rfl
          refine ok_lq (fun M8 eq_14 => ?_)
          have pf15 : (0 : Int32) ≤ ((M7.1 26 0 1) + (1 : Int32)) ∧ ((M7.1 26 0 1) + (1 : Int32)) ≤ (4 : Int32) := by
            have c16 : (0 : Int32) ≤ (M7.1 26 0 1) ∧ (M7.1 26 0 1) ≤ (4 : Int32) := hM7.at1 26 0 1
            have c17 : (M7.1 26 0 1) = (M.1 26 0 1) := by rw [eq_13]; exact up_k (by decide)
            have c18 : (0 : Int32) ≤ (M.1 26 0 1) ∧ (M.1 26 0 1) ≤ (4 : Int32) := hM.at1 26 0 1
            exact ⟨by grind, by grind⟩
          have hM8 : IV A B M8 := by rw [eq_14]; exact hM7.w1 rfl (a1) pf15
          refine ok_b1 (s_X7_tells M8 hM8 (M8.1 26 0 1) (a3)) (fun M10 v9 w19 => ?_)
          have hM10 : IV A B M10 := w19.1
          exact ok_some ⟨hM10, trivial⟩
        · refine ok_gd ?_ (fun g20 => ?_)
          · have c21 : (0 : Int32) ≤ (M.1 26 0 2) ∧ (M.1 26 0 2) ≤ (6 : Int32) := hM.at1 26 0 2
            exact vp_of (by decide) (by grind) (show (M.1 26 0 2) < (6 : Int32) by grind)
          have g20 := vp_to (by decide) g20
          have g20 : (0 : Int32) ≤ (M.1 26 0 2) ∧ (M.1 26 0 2) < (6 : Int32) := g20
          refine ok_lq (fun M13 eq_22 => ?_)
          have hM13 : IV A B M13 := by rw [eq_22]; exact hM.w1f rfl (a5 (((M.1 26 0 2)).toNatClampNeg)) rfl
          refine ok_lq (fun M14 eq_23 => ?_)
          have pf24 : (0 : Int32) ≤ ((M13.1 26 0 2) + (1 : Int32)) ∧ ((M13.1 26 0 2) + (1 : Int32)) ≤ (6 : Int32) := by
            have c25 : (0 : Int32) ≤ (M13.1 26 0 2) ∧ (M13.1 26 0 2) ≤ (6 : Int32) := hM13.at1 26 0 2
            have c26 : (M13.1 26 0 2) = (M.1 26 0 2) := by rw [eq_22]; exact up_k (by decide)
            have c27 : (0 : Int32) ≤ (M.1 26 0 2) ∧ (M.1 26 0 2) ≤ (6 : Int32) := hM.at1 26 0 2
            exact ⟨by grind, by grind⟩
          have hM14 : IV A B M14 := by rw [eq_23]; exact hM13.w1 rfl (a2) pf24
          refine ok_b1 (s_X7_tells M14 hM14 (M14.1 26 0 2) (a3)) (fun M16 v15 w28 => ?_)
          have hM16 : IV A B M16 := w28.1
          exact ok_some ⟨hM16, trivial⟩
    · refine ok_ite (fun q29 => ?_) (fun q29 => ?_)
      · refine ok_b1 (s_X7_fails M hM (2 : Int32) (show (1 : Int32) ≤ (2 : Int32) ∧ (2 : Int32) ≤ (3 : Int32) from ⟨by decide, by decide⟩) (a3)) (fun M25 v24 w30 => ?_)
        have hM25 : IV A B M25 := w30.1
        have w31 : (0 : Int32) ≤ v24 ∧ v24 ≤ (0 : Int32) := w30.2
        exact ok_some ⟨hM25, trivial⟩
      · unfold f_X7_number_J49
        refine ok_ite (fun q32 => ?_) (fun q32 => ?_)
        · refine ok_gd ?_ (fun g33 => ?_)
          · have c34 : (0 : Int32) ≤ (M.1 26 0 1) ∧ (M.1 26 0 1) ≤ (4 : Int32) := hM.at1 26 0 1
            exact vp_of (by decide) (by grind) (show (M.1 26 0 1) < (4 : Int32) by grind)
          have g33 := vp_to (by decide) g33
          have g33 : (0 : Int32) ≤ (M.1 26 0 1) ∧ (M.1 26 0 1) < (4 : Int32) := g33
          refine ok_lq (fun M7 eq_35 => ?_)
          have hM7 : IV A B M7 := by rw [eq_35]; exact hM.w1f rfl (a4 (((M.1 26 0 1)).toNatClampNeg)) rfl
          refine ok_lq (fun M8 eq_36 => ?_)
          have pf37 : (0 : Int32) ≤ ((M7.1 26 0 1) + (1 : Int32)) ∧ ((M7.1 26 0 1) + (1 : Int32)) ≤ (4 : Int32) := by
            have c38 : (0 : Int32) ≤ (M7.1 26 0 1) ∧ (M7.1 26 0 1) ≤ (4 : Int32) := hM7.at1 26 0 1
            have c39 : (M7.1 26 0 1) = (M.1 26 0 1) := by rw [eq_35]; exact up_k (by decide)
            have c40 : (0 : Int32) ≤ (M.1 26 0 1) ∧ (M.1 26 0 1) ≤ (4 : Int32) := hM.at1 26 0 1
            exact ⟨by grind, by grind⟩
          have hM8 : IV A B M8 := by rw [eq_36]; exact hM7.w1 rfl (a1) pf37
          refine ok_b1 (s_X7_tells M8 hM8 (M8.1 26 0 1) (a3)) (fun M10 v9 w41 => ?_)
          have hM10 : IV A B M10 := w41.1
          exact ok_some ⟨hM10, trivial⟩
        · refine ok_gd ?_ (fun g42 => ?_)
          · have c43 : (0 : Int32) ≤ (M.1 26 0 2) ∧ (M.1 26 0 2) ≤ (6 : Int32) := hM.at1 26 0 2
            exact vp_of (by decide) (by grind) (show (M.1 26 0 2) < (6 : Int32) by grind)
          have g42 := vp_to (by decide) g42
          have g42 : (0 : Int32) ≤ (M.1 26 0 2) ∧ (M.1 26 0 2) < (6 : Int32) := g42
          refine ok_lq (fun M13 eq_44 => ?_)
          have hM13 : IV A B M13 := by rw [eq_44]; exact hM.w1f rfl (a5 (((M.1 26 0 2)).toNatClampNeg)) rfl
          refine ok_lq (fun M14 eq_45 => ?_)
          have pf46 : (0 : Int32) ≤ ((M13.1 26 0 2) + (1 : Int32)) ∧ ((M13.1 26 0 2) + (1 : Int32)) ≤ (6 : Int32) := by
            have c47 : (0 : Int32) ≤ (M13.1 26 0 2) ∧ (M13.1 26 0 2) ≤ (6 : Int32) := hM13.at1 26 0 2
            have c48 : (M13.1 26 0 2) = (M.1 26 0 2) := by rw [eq_44]; exact up_k (by decide)
            have c49 : (0 : Int32) ≤ (M.1 26 0 2) ∧ (M.1 26 0 2) ≤ (6 : Int32) := hM.at1 26 0 2
            exact ⟨by grind, by grind⟩
          have hM14 : IV A B M14 := by rw [eq_45]; exact hM13.w1 rfl (a2) pf46
          refine ok_b1 (s_X7_tells M14 hM14 (M14.1 26 0 2) (a3)) (fun M16 v15 w50 => ?_)
          have hM16 : IV A B M16 := w50.1
          exact ok_some ⟨hM16, trivial⟩
theorem s_X7_clears {A : Nat → Nat → Nat → Prop} {B : SS} (M : SS) (hM : IV A B M) (a1 : A 26 0 1) (a2 : A 26 0 2) : ok (f_X7_clears M) (fun r => IV A B r.1 ∧ (0 : Int32) ≤ r.2 ∧ r.2 ≤ (10 : Int32) ∧ ((r.1.1 26 0 1) = (0 : Int32) ∧ (r.1.1 26 0 2) = (0 : Int32))) := by
  unfold f_X7_clears
  refine ok_lq (fun v1 eq_1 => ?_)
  refine ok_lq (fun M2 eq_2 => ?_)
  have hM2 : IV A B M2 := by rw [eq_2]; exact hM.w1 rfl (a1) (show (0 : Int32) ≤ (0 : Int32) ∧ (0 : Int32) ≤ (4 : Int32) from ⟨by decide, by decide⟩)
  refine ok_lq (fun M3 eq_3 => ?_)
  have hM3 : IV A B M3 := by rw [eq_3]; exact hM2.w1 rfl (a2) (show (0 : Int32) ≤ (0 : Int32) ∧ (0 : Int32) ≤ (6 : Int32) from ⟨by decide, by decide⟩)
  have pf4 : (0 : Int32) ≤ v1 ∧ v1 ≤ (10 : Int32) ∧ ((M3.1 26 0 1) = (0 : Int32) ∧ (M3.1 26 0 2) = (0 : Int32)) := by
    have c5 : (0 : Int32) ≤ (M.1 26 0 1) ∧ (M.1 26 0 1) ≤ (4 : Int32) := hM.at1 26 0 1
    have c6 : (0 : Int32) ≤ (M.1 26 0 2) ∧ (M.1 26 0 2) ≤ (6 : Int32) := hM.at1 26 0 2
    have c7 : (0 : Int32) ≤ (M3.1 26 0 1) ∧ (M3.1 26 0 1) ≤ (4 : Int32) := hM3.at1 26 0 1
    have c8 : (M3.1 26 0 1) = (M2.1 26 0 1) := by rw [eq_3]; exact up_p (by decide)
    have c9 : (0 : Int32) ≤ (M3.1 26 0 2) ∧ (M3.1 26 0 2) ≤ (6 : Int32) := hM3.at1 26 0 2
    have c10 : (M3.1 26 0 2) = (0 : Int32) := by rw [eq_3]; exact up_s
    have c11 : (0 : Int32) ≤ (M2.1 26 0 1) ∧ (M2.1 26 0 1) ≤ (4 : Int32) := hM2.at1 26 0 1
    have c12 : (M2.1 26 0 1) = (0 : Int32) := by rw [eq_2]; exact up_s
    grind
  exact ok_some ⟨hM3, pf4⟩
theorem s_X7_clear {A : Nat → Nat → Nat → Prop} {B : SS} (M : SS) (hM : IV A B M) (a1 : A 26 0 1) (a2 : A 26 0 2) (a3 : A 26 0 9) : ok (f_X7_clear M) (fun r => IV A B r.1 ∧ True) := by
  unfold f_X7_clear
  refine ok_b1 (s_X7_clears M hM (a1) (a2)) (fun M2 v1 w1 => ?_)
  have hM2 : IV A B M2 := w1.1
  have w2 : (0 : Int32) ≤ v1 ∧ v1 ≤ (10 : Int32) ∧ ((M2.1 26 0 1) = (0 : Int32) ∧ (M2.1 26 0 2) = (0 : Int32)) := w1.2
  refine ok_b1 (s_X7_tells M2 hM2 v1 (a3)) (fun M5 v4 w3 => ?_)
  have hM5 : IV A B M5 := w3.1
  exact ok_some ⟨hM5, trivial⟩
theorem s_X7_partner_L6 {A : Nat → Nat → Nat → Prop} {B : SS} (p0 : Int32) (ip0 : (0 : Int32) ≤ p0 ∧ p0 ≤ (40 : Int32)) (M : SS) (hM : IV A B M) (p2 : Int32) (ip2 : ((-1) : Int32) ≤ p2 ∧ p2 ≤ (1 : Int32)) : ∀ (n : Nat), ∀ (v2 : Int32) (v3 : Int32) (k1 : (Unit → Option (Int32))), ((p2 = 1 ∧ FU v2 24 (n)) ∨ (p2 = (-1) ∧ FD v2 (n))) → (((-1) : Int32) ≤ v2 ∧ v2 ≤ (24 : Int32)) → (∀ (k_0 : Unit), ok (k1 k_0) (fun r => ((-1) : Int32) ≤ r ∧ r ≤ (23 : Int32))) → ok (f_X7_partner_L6 p0 M p2 n v2 v3 k1) (fun r => ((-1) : Int32) ≤ r ∧ r ≤ (23 : Int32)) := by
  intro n
  induction n with
  | zero =>
    intro v2 v3 k1 hF iv2 hk
    exact (hF.elim (fun h => FU.stop h.2 (show v2 ≤ (24 : Int32) by grind)) (fun h => FD.stop h.2 (by grind))).elim
  | succ n ih =>
    intro v2 v3 k1 hF iv2 hk
    rw [f_X7_partner_L6]
    refine ok_gd ?_ (fun g1 => ?_)
    · exact vp_of (by decide) (by grind) (show p0 < (41 : Int32) by grind)
    have g1 := vp_to (by decide) g1
    have g1 : (0 : Int32) ≤ p0 ∧ p0 < (41 : Int32) := g1
    have pf2 : ((-1) : Int32) ≤ ((M.1 29 0 (p0).toNatClampNeg) - (1 : Int32)) ∧ ((M.1 29 0 (p0).toNatClampNeg) - (1 : Int32)) ≤ (999 : Int32) := by
      have c3 : (0 : Int32) ≤ (M.1 29 0 (p0).toNatClampNeg) ∧ (M.1 29 0 (p0).toNatClampNeg) ≤ (24 : Int32) := hM.at1 29 0 ((p0).toNatClampNeg)
      exact ⟨by grind, by grind⟩
    refine ok_b0 (s_X7_in v2 (0 : Int32) (show ((-999) : Int32) ≤ (0 : Int32) ∧ (0 : Int32) ≤ (1 : Int32) from ⟨by decide, by decide⟩) ((M.1 29 0 (p0).toNatClampNeg) - (1 : Int32)) pf2) (fun v5 w4 => ?_)
    have w5 : (0 : Int32) ≤ v5 ∧ v5 ≤ (1 : Int32) ∧ ((v5 = 0 ∧ (v2 < (0 : Int32) ∨ ((M.1 29 0 (p0).toNatClampNeg) - (1 : Int32)) < v2)) ∨ (v5 = 1 ∧ (0 : Int32) ≤ v2 ∧ v2 ≤ ((M.1 29 0 (p0).toNatClampNeg) - (1 : Int32)))) := w4
    refine ok_ite (fun q6 => ?_) (fun q6 => ?_)
    · exact hk ()
    · refine ok_gd ?_ (fun g7 => ?_)
      · have c8 : (0 : Int32) ≤ (M.1 29 0 (p0).toNatClampNeg) ∧ (M.1 29 0 (p0).toNatClampNeg) ≤ (24 : Int32) := hM.at1 29 0 ((p0).toNatClampNeg)
        exact vp_of (by decide) (by grind) (show (((24 : Int32) * p0) + v2) < (984 : Int32) by grind)
      have g7 := vp_to (by decide) g7
      have g7 : (0 : Int32) ≤ (((24 : Int32) * p0) + v2) ∧ (((24 : Int32) * p0) + v2) < (984 : Int32) := g7
      refine ok_ite (fun q9 => ?_) (fun q9 => ?_)
      · unfold f_X7_partner_J68
        refine ok_lq (fun v11 eq_10 => ?_)
        refine ok_ite (fun q11 => ?_) (fun q11 => ?_)
        · have pf12 : ((-1) : Int32) ≤ v2 ∧ v2 ≤ (23 : Int32) := by
            have c13 : (0 : Int32) ≤ (M.1 29 0 (p0).toNatClampNeg) ∧ (M.1 29 0 (p0).toNatClampNeg) ≤ (24 : Int32) := hM.at1 29 0 ((p0).toNatClampNeg)
            have c14 : (0 : Int32) ≤ (M.1 27 0 ((((24 : Int32) * p0) + v2)).toNatClampNeg) ∧ (M.1 27 0 ((((24 : Int32) * p0) + v2)).toNatClampNeg) ≤ (65535 : Int32) := hM.at1 27 0 (((((24 : Int32) * p0) + v2)).toNatClampNeg)
            exact ⟨by grind, by grind⟩
          exact ok_some pf12
        · refine ok_lq (fun v13 eq_15 => ?_)
          have pf16 : (p2 = 1 ∧ FU v13 24 (n)) ∨ (p2 = (-1) ∧ FD v13 (n)) := by
            have c17 : (0 : Int32) ≤ (M.1 29 0 (p0).toNatClampNeg) ∧ (M.1 29 0 (p0).toNatClampNeg) ≤ (24 : Int32) := hM.at1 29 0 ((p0).toNatClampNeg)
            have c18 : (0 : Int32) ≤ (M.1 27 0 ((((24 : Int32) * p0) + v2)).toNatClampNeg) ∧ (M.1 27 0 ((((24 : Int32) * p0) + v2)).toNatClampNeg) ≤ (65535 : Int32) := hM.at1 27 0 (((((24 : Int32) * p0) + v2)).toNatClampNeg)
            exact hF.elim (fun h => Or.inl ⟨h.1, FU.stepe h.2 (by grind) (by grind)⟩) (fun h => Or.inr ⟨h.1, FD.stepe h.2 (by grind) (by grind)⟩)
          have pf19 : ((-1) : Int32) ≤ v13 ∧ v13 ≤ (24 : Int32) := by
            have c20 : (0 : Int32) ≤ (M.1 29 0 (p0).toNatClampNeg) ∧ (M.1 29 0 (p0).toNatClampNeg) ≤ (24 : Int32) := hM.at1 29 0 ((p0).toNatClampNeg)
            have c21 : (0 : Int32) ≤ (M.1 27 0 ((((24 : Int32) * p0) + v2)).toNatClampNeg) ∧ (M.1 27 0 ((((24 : Int32) * p0) + v2)).toNatClampNeg) ≤ (65535 : Int32) := hM.at1 27 0 (((((24 : Int32) * p0) + v2)).toNatClampNeg)
            exact ⟨by grind, by grind⟩
          exact ih v13 v11 k1 pf16 pf19 hk
      · refine ok_gd ?_ (fun g22 => ?_)
        · have c23 : (0 : Int32) ≤ (M.1 29 0 (p0).toNatClampNeg) ∧ (M.1 29 0 (p0).toNatClampNeg) ≤ (24 : Int32) := hM.at1 29 0 ((p0).toNatClampNeg)
          have c24 : (0 : Int32) ≤ (M.1 27 0 ((((24 : Int32) * p0) + v2)).toNatClampNeg) ∧ (M.1 27 0 ((((24 : Int32) * p0) + v2)).toNatClampNeg) ≤ (65535 : Int32) := hM.at1 27 0 (((((24 : Int32) * p0) + v2)).toNatClampNeg)
          exact vp_of (by decide) (by grind) (show (((24 : Int32) * p0) + v2) < (984 : Int32) by grind)
        have g22 := vp_to (by decide) g22
        have g22 : (0 : Int32) ≤ (((24 : Int32) * p0) + v2) ∧ (((24 : Int32) * p0) + v2) < (984 : Int32) := g22
        refine ok_ite (fun q25 => ?_) (fun q25 => ?_)
        · unfold f_X7_partner_J68
          refine ok_lq (fun v11 eq_26 => ?_)
          refine ok_ite (fun q27 => ?_) (fun q27 => ?_)
          · have pf28 : ((-1) : Int32) ≤ v2 ∧ v2 ≤ (23 : Int32) := by
              have c29 : (0 : Int32) ≤ (M.1 29 0 (p0).toNatClampNeg) ∧ (M.1 29 0 (p0).toNatClampNeg) ≤ (24 : Int32) := hM.at1 29 0 ((p0).toNatClampNeg)
              have c30 : (0 : Int32) ≤ (M.1 27 0 ((((24 : Int32) * p0) + v2)).toNatClampNeg) ∧ (M.1 27 0 ((((24 : Int32) * p0) + v2)).toNatClampNeg) ≤ (65535 : Int32) := hM.at1 27 0 (((((24 : Int32) * p0) + v2)).toNatClampNeg)
              exact ⟨by grind, by grind⟩
            exact ok_some pf28
          · refine ok_lq (fun v13 eq_31 => ?_)
            have pf32 : (p2 = 1 ∧ FU v13 24 (n)) ∨ (p2 = (-1) ∧ FD v13 (n)) := by
              have c33 : (0 : Int32) ≤ (M.1 29 0 (p0).toNatClampNeg) ∧ (M.1 29 0 (p0).toNatClampNeg) ≤ (24 : Int32) := hM.at1 29 0 ((p0).toNatClampNeg)
              have c34 : (0 : Int32) ≤ (M.1 27 0 ((((24 : Int32) * p0) + v2)).toNatClampNeg) ∧ (M.1 27 0 ((((24 : Int32) * p0) + v2)).toNatClampNeg) ≤ (65535 : Int32) := hM.at1 27 0 (((((24 : Int32) * p0) + v2)).toNatClampNeg)
              exact hF.elim (fun h => Or.inl ⟨h.1, FU.stepe h.2 (by grind) (by grind)⟩) (fun h => Or.inr ⟨h.1, FD.stepe h.2 (by grind) (by grind)⟩)
            have pf35 : ((-1) : Int32) ≤ v13 ∧ v13 ≤ (24 : Int32) := by
              have c36 : (0 : Int32) ≤ (M.1 29 0 (p0).toNatClampNeg) ∧ (M.1 29 0 (p0).toNatClampNeg) ≤ (24 : Int32) := hM.at1 29 0 ((p0).toNatClampNeg)
              have c37 : (0 : Int32) ≤ (M.1 27 0 ((((24 : Int32) * p0) + v2)).toNatClampNeg) ∧ (M.1 27 0 ((((24 : Int32) * p0) + v2)).toNatClampNeg) ≤ (65535 : Int32) := hM.at1 27 0 (((((24 : Int32) * p0) + v2)).toNatClampNeg)
              exact ⟨by grind, by grind⟩
            exact ih v13 v11 k1 pf32 pf35 hk
        · unfold f_X7_partner_J68
          refine ok_lq (fun v11 eq_38 => ?_)
          refine ok_ite (fun q39 => ?_) (fun q39 => ?_)
          · have pf40 : ((-1) : Int32) ≤ v2 ∧ v2 ≤ (23 : Int32) := by
              have c41 : (0 : Int32) ≤ (M.1 29 0 (p0).toNatClampNeg) ∧ (M.1 29 0 (p0).toNatClampNeg) ≤ (24 : Int32) := hM.at1 29 0 ((p0).toNatClampNeg)
              have c42 : (0 : Int32) ≤ (M.1 27 0 ((((24 : Int32) * p0) + v2)).toNatClampNeg) ∧ (M.1 27 0 ((((24 : Int32) * p0) + v2)).toNatClampNeg) ≤ (65535 : Int32) := hM.at1 27 0 (((((24 : Int32) * p0) + v2)).toNatClampNeg)
              exact ⟨by grind, by grind⟩
            exact ok_some pf40
          · refine ok_lq (fun v13 eq_43 => ?_)
            have pf44 : (p2 = 1 ∧ FU v13 24 (n)) ∨ (p2 = (-1) ∧ FD v13 (n)) := by
              have c45 : (0 : Int32) ≤ (M.1 29 0 (p0).toNatClampNeg) ∧ (M.1 29 0 (p0).toNatClampNeg) ≤ (24 : Int32) := hM.at1 29 0 ((p0).toNatClampNeg)
              have c46 : (0 : Int32) ≤ (M.1 27 0 ((((24 : Int32) * p0) + v2)).toNatClampNeg) ∧ (M.1 27 0 ((((24 : Int32) * p0) + v2)).toNatClampNeg) ≤ (65535 : Int32) := hM.at1 27 0 (((((24 : Int32) * p0) + v2)).toNatClampNeg)
              exact hF.elim (fun h => Or.inl ⟨h.1, FU.stepe h.2 (by grind) (by grind)⟩) (fun h => Or.inr ⟨h.1, FD.stepe h.2 (by grind) (by grind)⟩)
            have pf47 : ((-1) : Int32) ≤ v13 ∧ v13 ≤ (24 : Int32) := by
              have c48 : (0 : Int32) ≤ (M.1 29 0 (p0).toNatClampNeg) ∧ (M.1 29 0 (p0).toNatClampNeg) ≤ (24 : Int32) := hM.at1 29 0 ((p0).toNatClampNeg)
              have c49 : (0 : Int32) ≤ (M.1 27 0 ((((24 : Int32) * p0) + v2)).toNatClampNeg) ∧ (M.1 27 0 ((((24 : Int32) * p0) + v2)).toNatClampNeg) ≤ (65535 : Int32) := hM.at1 27 0 (((((24 : Int32) * p0) + v2)).toNatClampNeg)
              exact ⟨by grind, by grind⟩
            exact ih v13 v11 k1 pf44 pf47 hk
theorem s_X7_partner {A : Nat → Nat → Nat → Prop} {B : SS} (M : SS) (hM : IV A B M) (p0 : Int32) (ip0 : (0 : Int32) ≤ p0 ∧ p0 ≤ (40 : Int32)) (p1 : Int32) (ip1 : (0 : Int32) ≤ p1 ∧ p1 ≤ (23 : Int32)) (p2 : Int32) (ip2 : ((-1) : Int32) ≤ p2 ∧ p2 ≤ (1 : Int32)) (x0 : p2 = 1 ∨ p2 = (-1)) : ok (f_X7_partner M p0 p1 p2) (fun r => ((-1) : Int32) ≤ r ∧ r ≤ (23 : Int32)) := by
  unfold f_X7_partner
  have pf1 : (0 : Int32) ≤ p0 ∧ p0 ≤ (40 : Int32) := by
    exact ⟨by grind, by grind⟩
  have pf2 : ((-1) : Int32) ≤ p2 ∧ p2 ≤ (1 : Int32) := by
    exact ⟨by grind, by grind⟩
  have pf3 : (p2 = 1 ∧ FU p1 24 (1000)) ∨ (p2 = (-1) ∧ FD p1 (1000)) := by
    exact x0.elim (fun h => Or.inl ⟨h, FU.start (by grind) (by decide)⟩) (fun h => Or.inr ⟨h, FD.start (show p1 ≤ (900 : Int32) by grind)⟩)
  have pf4 : ((-1) : Int32) ≤ p1 ∧ p1 ≤ (24 : Int32) := by
    exact ⟨by grind, by grind⟩
  refine s_X7_partner_L6 p0 pf1 M hM p2 pf2 1000 p1 (0 : Int32) _ pf3 pf4 (fun _ => ?_)
  have pf5 : ((-1) : Int32) ≤ ((-1) : Int32) ∧ ((-1) : Int32) ≤ (23 : Int32) := by
    exact ⟨by grind, by grind⟩
  exact ok_some pf5
theorem s_X7_isWhole_J62 (v6 : Int32) (v5 : Int32) (iv5 : (0 : Int32) ≤ v5 ∧ v5 ≤ (1 : Int32)) (v4 : Int32) (iv4 : (0 : Int32) ≤ v4 ∧ v4 ≤ (23 : Int32)) (v12 : Int32) (iv12 : ((-1) : Int32) ≤ v12 ∧ v12 ≤ (1 : Int32)) {n : Nat} (rc : Int32 → Int32 → Int32 → (Int32 → Int32 → Option (Int32)) → Option (Int32)) (hrc : ∀ (v4 : Int32) (v5 : Int32) (v6 : Int32) (k1 : (Int32 → Int32 → Option (Int32))), (FU v4 24 n) → ((0 : Int32) ≤ v4 ∧ v4 ≤ (24 : Int32)) → ((0 : Int32) ≤ v5 ∧ v5 ≤ (1 : Int32)) → (∀ (k_0 : Int32) (k_1 : Int32), ((0 : Int32) ≤ k_0 ∧ k_0 ≤ (1 : Int32)) → ok (k1 k_0 k_1) (fun r => (0 : Int32) ≤ r ∧ r ≤ (1 : Int32))) → ok (rc v4 v5 v6 k1) (fun r => (0 : Int32) ≤ r ∧ r ≤ (1 : Int32))) (k1 : Int32 → Int32 → Option (Int32)) (hk : ∀ (k_0 : Int32) (k_1 : Int32), ((0 : Int32) ≤ k_0 ∧ k_0 ≤ (1 : Int32)) → ok (k1 k_0 k_1) (fun r => (0 : Int32) ≤ r ∧ r ≤ (1 : Int32))) (hF : FU v4 24 (n + 1)) : ok (f_X7_isWhole_J62 rc k1 v6 v5 v4 v12) (fun r => (0 : Int32) ≤ r ∧ r ≤ (1 : Int32)) := by
  unfold f_X7_isWhole_J62
  refine ok_lq (fun v14 eq_1 => ?_)
  refine ok_ite (fun q2 => ?_) (fun q2 => ?_)
  · have pf3 : FU (v4 + (1 : Int32)) 24 n := by
      exact FU.step hF (by grind)
    have pf4 : (0 : Int32) ≤ (v4 + (1 : Int32)) ∧ (v4 + (1 : Int32)) ≤ (24 : Int32) := by
      exact ⟨by grind, by grind⟩
    exact hrc (v4 + (1 : Int32)) (0 : Int32) v14 k1 pf3 pf4 (show (0 : Int32) ≤ (0 : Int32) ∧ (0 : Int32) ≤ (1 : Int32) from ⟨by decide, by decide⟩) hk
  · refine ok_ite (fun q5 => ?_) (fun q5 => ?_)
    · have pf6 : FU (v4 + (1 : Int32)) 24 n := by
        exact FU.step hF (by grind)
      have pf7 : (0 : Int32) ≤ (v4 + (1 : Int32)) ∧ (v4 + (1 : Int32)) ≤ (24 : Int32) := by
        exact ⟨by grind, by grind⟩
      exact hrc (v4 + (1 : Int32)) (0 : Int32) v14 k1 pf6 pf7 (show (0 : Int32) ≤ (0 : Int32) ∧ (0 : Int32) ≤ (1 : Int32) from ⟨by decide, by decide⟩) hk
    · have pf8 : FU (v4 + (1 : Int32)) 24 n := by
        exact FU.step hF (by grind)
      have pf9 : (0 : Int32) ≤ (v4 + (1 : Int32)) ∧ (v4 + (1 : Int32)) ≤ (24 : Int32) := by
        exact ⟨by grind, by grind⟩
      exact hrc (v4 + (1 : Int32)) (1 : Int32) v14 k1 pf8 pf9 (show (0 : Int32) ≤ (1 : Int32) ∧ (1 : Int32) ≤ (1 : Int32) from ⟨by decide, by decide⟩) hk
theorem s_X7_isWhole_L7 {A : Nat → Nat → Nat → Prop} {B : SS} (p0 : Int32) (ip0 : (40 : Int32) ≤ p0 ∧ p0 ≤ (40 : Int32)) (M : SS) (hM : IV A B M) : ∀ (n : Nat), ∀ (v4 : Int32) (v5 : Int32) (v6 : Int32) (k1 : (Int32 → Int32 → Option (Int32))), (FU v4 24 n) → ((0 : Int32) ≤ v4 ∧ v4 ≤ (24 : Int32)) → ((0 : Int32) ≤ v5 ∧ v5 ≤ (1 : Int32)) → (∀ (k_0 : Int32) (k_1 : Int32), ((0 : Int32) ≤ k_0 ∧ k_0 ≤ (1 : Int32)) → ok (k1 k_0 k_1) (fun r => (0 : Int32) ≤ r ∧ r ≤ (1 : Int32))) → ok (f_X7_isWhole_L7 p0 M n v4 v5 v6 k1) (fun r => (0 : Int32) ≤ r ∧ r ≤ (1 : Int32)) := by
  intro n
  induction n with
  | zero =>
    intro v4 v5 v6 k1 hF iv4 iv5 hk
    exact (FU.stop hF (show v4 ≤ (24 : Int32) by grind)).elim
  | succ n ih =>
    intro v4 v5 v6 k1 hF iv4 iv5 hk
    rw [f_X7_isWhole_L7]
    refine ok_gd ?_ (fun g1 => ?_)
    · exact vp_of (by decide) (by grind) (show p0 < (41 : Int32) by grind)
    have g1 := vp_to (by decide) g1
    have g1 : (0 : Int32) ≤ p0 ∧ p0 < (41 : Int32) := g1
    refine ok_ite (fun q2 => ?_) (fun q2 => ?_)
    · have pf3 : (0 : Int32) ≤ v5 ∧ v5 ≤ (1 : Int32) := by
        exact ⟨by grind, by grind⟩
      exact hk v5 v6 pf3
    · refine ok_gd ?_ (fun g4 => ?_)
      · have c5 : (0 : Int32) ≤ (M.1 29 0 (p0).toNatClampNeg) ∧ (M.1 29 0 (p0).toNatClampNeg) ≤ (24 : Int32) := hM.at1 29 0 ((p0).toNatClampNeg)
        exact vp_of (by decide) (by grind) (show (((24 : Int32) * p0) + v4) < (984 : Int32) by grind)
      have g4 := vp_to (by decide) g4
      have g4 : (0 : Int32) ≤ (((24 : Int32) * p0) + v4) ∧ (((24 : Int32) * p0) + v4) < (984 : Int32) := g4
      refine ok_ite (fun q6 => ?_) (fun q6 => ?_)
      · have pf7 : (0 : Int32) ≤ v5 ∧ v5 ≤ (1 : Int32) := by
          exact ⟨by grind, by grind⟩
        have pf8 : (0 : Int32) ≤ v4 ∧ v4 ≤ (23 : Int32) := by
          have c9 : (0 : Int32) ≤ (M.1 29 0 (p0).toNatClampNeg) ∧ (M.1 29 0 (p0).toNatClampNeg) ≤ (24 : Int32) := hM.at1 29 0 ((p0).toNatClampNeg)
          have c10 : (0 : Int32) ≤ (M.1 27 0 ((((24 : Int32) * p0) + v4)).toNatClampNeg) ∧ (M.1 27 0 ((((24 : Int32) * p0) + v4)).toNatClampNeg) ≤ (65535 : Int32) := hM.at1 27 0 (((((24 : Int32) * p0) + v4)).toNatClampNeg)
          exact ⟨by grind, by grind⟩
        exact s_X7_isWhole_J62 v6 v5 pf7 v4 pf8 (1 : Int32) (show ((-1) : Int32) ≤ (1 : Int32) ∧ (1 : Int32) ≤ (1 : Int32) from ⟨by decide, by decide⟩) (f_X7_isWhole_L7 p0 M n) ih k1 hk hF
      · refine ok_gd ?_ (fun g11 => ?_)
        · have c12 : (0 : Int32) ≤ (M.1 29 0 (p0).toNatClampNeg) ∧ (M.1 29 0 (p0).toNatClampNeg) ≤ (24 : Int32) := hM.at1 29 0 ((p0).toNatClampNeg)
          have c13 : (0 : Int32) ≤ (M.1 27 0 ((((24 : Int32) * p0) + v4)).toNatClampNeg) ∧ (M.1 27 0 ((((24 : Int32) * p0) + v4)).toNatClampNeg) ≤ (65535 : Int32) := hM.at1 27 0 (((((24 : Int32) * p0) + v4)).toNatClampNeg)
          exact vp_of (by decide) (by grind) (show (((24 : Int32) * p0) + v4) < (984 : Int32) by grind)
        have g11 := vp_to (by decide) g11
        have g11 : (0 : Int32) ≤ (((24 : Int32) * p0) + v4) ∧ (((24 : Int32) * p0) + v4) < (984 : Int32) := g11
        refine ok_ite (fun q14 => ?_) (fun q14 => ?_)
        · have pf15 : (0 : Int32) ≤ v5 ∧ v5 ≤ (1 : Int32) := by
            exact ⟨by grind, by grind⟩
          have pf16 : (0 : Int32) ≤ v4 ∧ v4 ≤ (23 : Int32) := by
            have c17 : (0 : Int32) ≤ (M.1 29 0 (p0).toNatClampNeg) ∧ (M.1 29 0 (p0).toNatClampNeg) ≤ (24 : Int32) := hM.at1 29 0 ((p0).toNatClampNeg)
            have c18 : (0 : Int32) ≤ (M.1 27 0 ((((24 : Int32) * p0) + v4)).toNatClampNeg) ∧ (M.1 27 0 ((((24 : Int32) * p0) + v4)).toNatClampNeg) ≤ (65535 : Int32) := hM.at1 27 0 (((((24 : Int32) * p0) + v4)).toNatClampNeg)
            exact ⟨by grind, by grind⟩
          exact s_X7_isWhole_J62 v6 v5 pf15 v4 pf16 ((-1) : Int32) (show ((-1) : Int32) ≤ ((-1) : Int32) ∧ ((-1) : Int32) ≤ (1 : Int32) from ⟨by decide, by decide⟩) (f_X7_isWhole_L7 p0 M n) ih k1 hk hF
        · have pf19 : (0 : Int32) ≤ v5 ∧ v5 ≤ (1 : Int32) := by
            exact ⟨by grind, by grind⟩
          have pf20 : (0 : Int32) ≤ v4 ∧ v4 ≤ (23 : Int32) := by
            have c21 : (0 : Int32) ≤ (M.1 29 0 (p0).toNatClampNeg) ∧ (M.1 29 0 (p0).toNatClampNeg) ≤ (24 : Int32) := hM.at1 29 0 ((p0).toNatClampNeg)
            have c22 : (0 : Int32) ≤ (M.1 27 0 ((((24 : Int32) * p0) + v4)).toNatClampNeg) ∧ (M.1 27 0 ((((24 : Int32) * p0) + v4)).toNatClampNeg) ≤ (65535 : Int32) := hM.at1 27 0 (((((24 : Int32) * p0) + v4)).toNatClampNeg)
            exact ⟨by grind, by grind⟩
          exact s_X7_isWhole_J62 v6 v5 pf19 v4 pf20 (0 : Int32) (show ((-1) : Int32) ≤ (0 : Int32) ∧ (0 : Int32) ≤ (1 : Int32) from ⟨by decide, by decide⟩) (f_X7_isWhole_L7 p0 M n) ih k1 hk hF
theorem s_X7_isWhole {A : Nat → Nat → Nat → Prop} {B : SS} (M : SS) (hM : IV A B M) (p0 : Int32) (ip0 : (40 : Int32) ≤ p0 ∧ p0 ≤ (40 : Int32)) : ok (f_X7_isWhole M p0) (fun r => (0 : Int32) ≤ r ∧ r ≤ (1 : Int32)) := by
  unfold f_X7_isWhole
  have pf1 : (40 : Int32) ≤ p0 ∧ p0 ≤ (40 : Int32) := by
    exact ⟨by grind, by grind⟩
  have pf2 : FU (0 : Int32) 24 1000 := by
    exact FU.start (by grind) (by decide)
  refine s_X7_isWhole_L7 p0 pf1 M hM 1000 (0 : Int32) (1 : Int32) (0 : Int32) _ pf2 (show (0 : Int32) ≤ (0 : Int32) ∧ (0 : Int32) ≤ (24 : Int32) from ⟨by decide, by decide⟩) (show (0 : Int32) ≤ (1 : Int32) ∧ (1 : Int32) ≤ (1 : Int32) from ⟨by decide, by decide⟩) (fun v2 v3 wv2 => ?_)
  have wv2 : (0 : Int32) ≤ v2 ∧ v2 ≤ (1 : Int32) := wv2
  refine ok_ite (fun q3 => ?_) (fun q3 => ?_)
  · have pf4 : (0 : Int32) ≤ (0 : Int32) ∧ (0 : Int32) ≤ (1 : Int32) := by
      exact ⟨by grind, by grind⟩
    exact ok_some pf4
  · refine ok_ite (fun q5 => ?_) (fun q5 => ?_)
    · have pf6 : (0 : Int32) ≤ (1 : Int32) ∧ (1 : Int32) ≤ (1 : Int32) := by
        exact ⟨by grind, by grind⟩
      exact ok_some pf6
    · have pf7 : (0 : Int32) ≤ (0 : Int32) ∧ (0 : Int32) ≤ (1 : Int32) := by
        exact ⟨by grind, by grind⟩
      exact ok_some pf7
theorem s_X7_needs (p0 : Int32) (ip0 : (0 : Int32) ≤ p0 ∧ p0 ≤ (65535 : Int32)) : ok (f_X7_needs p0) (fun r => (0 : Int32) ≤ r ∧ r ≤ (2 : Int32) ∧ (((p0 = 43 ∨ p0 = 45 ∨ p0 = 42 ∨ p0 = 37 ∨ p0 = 115) → r = 2) ∧ (¬ p0 = 110 → ¬ p0 = 105 → (1 : Int32) ≤ r))) := by
  unfold f_X7_needs
  refine ok_b0 (s_X7_isOneOf p0 (43 : Int32) (show (42 : Int32) ≤ (43 : Int32) ∧ (43 : Int32) ≤ (112 : Int32) from ⟨by decide, by decide⟩) (45 : Int32) (show (37 : Int32) ≤ (45 : Int32) ∧ (45 : Int32) ≤ (111 : Int32) from ⟨by decide, by decide⟩) (42 : Int32) (show (42 : Int32) ≤ (42 : Int32) ∧ (42 : Int32) ≤ (100 : Int32) from ⟨by decide, by decide⟩) (37 : Int32) (show (37 : Int32) ≤ (37 : Int32) ∧ (37 : Int32) ≤ (115 : Int32) from ⟨by decide, by decide⟩)) (fun v1 w1 => ?_)
  have w2 : (0 : Int32) ≤ v1 ∧ v1 ≤ (1 : Int32) ∧ ((v1 = 1 ∧ (p0 = (43 : Int32) ∨ p0 = (45 : Int32) ∨ p0 = (42 : Int32) ∨ p0 = (37 : Int32))) ∨ (v1 = 0 ∧ ¬ p0 = (43 : Int32) ∧ ¬ p0 = (45 : Int32) ∧ ¬ p0 = (42 : Int32) ∧ ¬ p0 = (37 : Int32))) := w1
  refine ok_ite (fun q3 => ?_) (fun q3 => ?_)
  · refine ok_ite (fun q4 => ?_) (fun q4 => ?_)
    · have pf5 : (0 : Int32) ≤ (2 : Int32) ∧ (2 : Int32) ≤ (2 : Int32) ∧ (((p0 = 43 ∨ p0 = 45 ∨ p0 = 42 ∨ p0 = 37 ∨ p0 = 115) → (2 : Int32) = 2) ∧ (¬ p0 = 110 → ¬ p0 = 105 → (1 : Int32) ≤ (2 : Int32))) := by
        grind
      exact ok_some pf5
    · refine ok_ite (fun q6 => ?_) (fun q6 => ?_)
      · have pf7 : (0 : Int32) ≤ (0 : Int32) ∧ (0 : Int32) ≤ (2 : Int32) ∧ (((p0 = 43 ∨ p0 = 45 ∨ p0 = 42 ∨ p0 = 37 ∨ p0 = 115) → (0 : Int32) = 2) ∧ (¬ p0 = 110 → ¬ p0 = 105 → (1 : Int32) ≤ (0 : Int32))) := by
          grind
        exact ok_some pf7
      · refine ok_ite (fun q8 => ?_) (fun q8 => ?_)
        · have pf9 : (0 : Int32) ≤ (0 : Int32) ∧ (0 : Int32) ≤ (2 : Int32) ∧ (((p0 = 43 ∨ p0 = 45 ∨ p0 = 42 ∨ p0 = 37 ∨ p0 = 115) → (0 : Int32) = 2) ∧ (¬ p0 = 110 → ¬ p0 = 105 → (1 : Int32) ≤ (0 : Int32))) := by
            grind
          exact ok_some pf9
        · have pf10 : (0 : Int32) ≤ (1 : Int32) ∧ (1 : Int32) ≤ (2 : Int32) ∧ (((p0 = 43 ∨ p0 = 45 ∨ p0 = 42 ∨ p0 = 37 ∨ p0 = 115) → (1 : Int32) = 2) ∧ (¬ p0 = 110 → ¬ p0 = 105 → (1 : Int32) ≤ (1 : Int32))) := by
            grind
          exact ok_some pf10
  · have pf11 : (0 : Int32) ≤ (2 : Int32) ∧ (2 : Int32) ≤ (2 : Int32) ∧ (((p0 = 43 ∨ p0 = 45 ∨ p0 = 42 ∨ p0 = 37 ∨ p0 = 115) → (2 : Int32) = 2) ∧ (¬ p0 = 110 → ¬ p0 = 105 → (1 : Int32) ≤ (2 : Int32))) := by
      grind
    exact ok_some pf11
theorem s_X7_changes {A : Nat → Nat → Nat → Prop} {B : SS} (M : SS) (hM : IV A B M) (p0 : Int32) (ip0 : (0 : Int32) ≤ p0 ∧ p0 ≤ (65535 : Int32)) (x0 : (1 : Int32) ≤ (M.1 26 0 38)) (x1 : p0 = 112 ∨ p0 = 111 ∨ (2 : Int32) ≤ (M.1 26 0 38)) (x2 : (p0 = 112 ∨ p0 = 111 ∨ p0 = 115 ∨ p0 = 43 ∨ p0 = 45 ∨ p0 = 42) ∨ ¬ (M.1 53 0 (((M.1 26 0 38) - (1 : Int32))).toNatClampNeg) = 0) (x3 : p0 = 111 → (M.1 26 0 39) < (6 : Int32)) (a1 : A 26 0 38) (a2 : A 26 0 39) (a3 : ∀ p, A 53 0 p) (a4 : ∀ p, A 54 0 p) : ok (f_X7_changes M p0) (fun r => IV A B r.1 ∧ True) := by
  unfold f_X7_changes
  refine ok_gd ?_ (fun g1 => ?_)
  · have c2 : (0 : Int32) ≤ (M.1 26 0 38) ∧ (M.1 26 0 38) ≤ (12 : Int32) := hM.at1 26 0 38
    have c3 : (0 : Int32) ≤ (M.1 26 0 39) ∧ (M.1 26 0 39) ≤ (6 : Int32) := hM.at1 26 0 39
    exact vp_of (by decide) (by grind) (show ((M.1 26 0 38) - (1 : Int32)) < (12 : Int32) by grind)
  have g1 := vp_to (by decide) g1
  have g1 : (0 : Int32) ≤ ((M.1 26 0 38) - (1 : Int32)) ∧ ((M.1 26 0 38) - (1 : Int32)) < (12 : Int32) := g1
  refine ok_lq (fun v2 eq_4 => ?_)
  refine ok_ite (fun q5 => ?_) (fun q5 => ?_)
  · unfold f_X7_changes_J24
    refine ok_lq (fun M4 eq_6 => ?_)
    have pf7 : (0 : Int32) ≤ ((M.1 26 0 38) - (1 : Int32)) ∧ ((M.1 26 0 38) - (1 : Int32)) ≤ (12 : Int32) := by
      have c8 : (0 : Int32) ≤ (M.1 26 0 38) ∧ (M.1 26 0 38) ≤ (12 : Int32) := hM.at1 26 0 38
      have c9 : (0 : Int32) ≤ (M.1 26 0 39) ∧ (M.1 26 0 39) ≤ (6 : Int32) := hM.at1 26 0 39
      exact ⟨by grind, by grind⟩
    have hM4 : IV A B M4 := by rw [eq_6]; exact hM.w1 rfl (a1) pf7
    refine ok_ite (fun q10 => ?_) (fun q10 => ?_)
    · refine ok_gd ?_ (fun g11 => ?_)
      · have c12 : (0 : Int32) ≤ (M4.1 26 0 39) ∧ (M4.1 26 0 39) ≤ (6 : Int32) := hM4.at1 26 0 39
        have c13 : (M4.1 26 0 39) = (M.1 26 0 39) := by rw [eq_6]; exact up_p (by decide)
        have c14 : (0 : Int32) ≤ (M.1 26 0 39) ∧ (M.1 26 0 39) ≤ (6 : Int32) := hM.at1 26 0 39
        exact vp_of (by decide) (by grind) (show (M4.1 26 0 39) < (6 : Int32) by grind)
      have g11 := vp_to (by decide) g11
      have g11 : (0 : Int32) ≤ (M4.1 26 0 39) ∧ (M4.1 26 0 39) < (6 : Int32) := g11
      refine ok_lq (fun M7 eq_15 => ?_)
      have hM7 : IV A B M7 := by rw [eq_15]; exact hM4.w1f rfl (a4 (((M4.1 26 0 39)).toNatClampNeg)) rfl
      refine ok_lq (fun M8 eq_16 => ?_)
      have pf17 : (0 : Int32) ≤ ((M7.1 26 0 39) + (1 : Int32)) ∧ ((M7.1 26 0 39) + (1 : Int32)) ≤ (6 : Int32) := by
        have c18 : (0 : Int32) ≤ (M7.1 26 0 39) ∧ (M7.1 26 0 39) ≤ (6 : Int32) := hM7.at1 26 0 39
        have c19 : (M7.1 26 0 39) = (M4.1 26 0 39) := by rw [eq_15]; exact up_k (by decide)
        have c20 : (0 : Int32) ≤ (M4.1 26 0 39) ∧ (M4.1 26 0 39) ≤ (6 : Int32) := hM4.at1 26 0 39
        have c21 : (M4.1 26 0 39) = (M.1 26 0 39) := by rw [eq_6]; exact up_p (by decide)
        have c22 : (0 : Int32) ≤ (M.1 26 0 39) ∧ (M.1 26 0 39) ≤ (6 : Int32) := hM.at1 26 0 39
        exact ⟨by grind, by grind⟩
      have hM8 : IV A B M8 := by rw [eq_16]; exact hM7.w1 rfl (a2) pf17
      exact ok_some ⟨hM8, trivial⟩
    · exact ok_some ⟨hM4, trivial⟩
  · refine ok_ite (fun q23 => ?_) (fun q23 => ?_)
    · unfold f_X7_changes_J24
      refine ok_lq (fun M4 eq_24 => ?_)
      have pf25 : (0 : Int32) ≤ ((M.1 26 0 38) - (1 : Int32)) ∧ ((M.1 26 0 38) - (1 : Int32)) ≤ (12 : Int32) := by
        have c26 : (0 : Int32) ≤ (M.1 26 0 38) ∧ (M.1 26 0 38) ≤ (12 : Int32) := hM.at1 26 0 38
        have c27 : (0 : Int32) ≤ (M.1 26 0 39) ∧ (M.1 26 0 39) ≤ (6 : Int32) := hM.at1 26 0 39
        exact ⟨by grind, by grind⟩
      have hM4 : IV A B M4 := by rw [eq_24]; exact hM.w1 rfl (a1) pf25
      refine ok_ite (fun q28 => ?_) (fun q28 => ?_)
      · refine ok_gd ?_ (fun g29 => ?_)
        · have c30 : (0 : Int32) ≤ (M4.1 26 0 39) ∧ (M4.1 26 0 39) ≤ (6 : Int32) := hM4.at1 26 0 39
          have c31 : (M4.1 26 0 39) = (M.1 26 0 39) := by rw [eq_24]; exact up_p (by decide)
          have c32 : (0 : Int32) ≤ (M.1 26 0 39) ∧ (M.1 26 0 39) ≤ (6 : Int32) := hM.at1 26 0 39
          exact vp_of (by decide) (by grind) (show (M4.1 26 0 39) < (6 : Int32) by grind)
        have g29 := vp_to (by decide) g29
        have g29 : (0 : Int32) ≤ (M4.1 26 0 39) ∧ (M4.1 26 0 39) < (6 : Int32) := g29
        refine ok_lq (fun M7 eq_33 => ?_)
        have hM7 : IV A B M7 := by rw [eq_33]; exact hM4.w1f rfl (a4 (((M4.1 26 0 39)).toNatClampNeg)) rfl
        refine ok_lq (fun M8 eq_34 => ?_)
        have pf35 : (0 : Int32) ≤ ((M7.1 26 0 39) + (1 : Int32)) ∧ ((M7.1 26 0 39) + (1 : Int32)) ≤ (6 : Int32) := by
          have c36 : (0 : Int32) ≤ (M7.1 26 0 39) ∧ (M7.1 26 0 39) ≤ (6 : Int32) := hM7.at1 26 0 39
          have c37 : (M7.1 26 0 39) = (M4.1 26 0 39) := by rw [eq_33]; exact up_k (by decide)
          have c38 : (0 : Int32) ≤ (M4.1 26 0 39) ∧ (M4.1 26 0 39) ≤ (6 : Int32) := hM4.at1 26 0 39
          have c39 : (M4.1 26 0 39) = (M.1 26 0 39) := by rw [eq_24]; exact up_p (by decide)
          have c40 : (0 : Int32) ≤ (M.1 26 0 39) ∧ (M.1 26 0 39) ≤ (6 : Int32) := hM.at1 26 0 39
          exact ⟨by grind, by grind⟩
        have hM8 : IV A B M8 := by rw [eq_34]; exact hM7.w1 rfl (a2) pf35
        exact ok_some ⟨hM8, trivial⟩
      · exact ok_some ⟨hM4, trivial⟩
    · refine ok_gd ?_ (fun g41 => ?_)
      · have c42 : (0 : Int32) ≤ (M.1 26 0 38) ∧ (M.1 26 0 38) ≤ (12 : Int32) := hM.at1 26 0 38
        have c43 : (0 : Int32) ≤ (M.1 26 0 39) ∧ (M.1 26 0 39) ≤ (6 : Int32) := hM.at1 26 0 39
        exact vp_of (by decide) (by grind) (show ((M.1 26 0 38) - (2 : Int32)) < (12 : Int32) by grind)
      have g41 := vp_to (by decide) g41
      have g41 : (0 : Int32) ≤ ((M.1 26 0 38) - (2 : Int32)) ∧ ((M.1 26 0 38) - (2 : Int32)) < (12 : Int32) := g41
      refine ok_lq (fun v12 eq_44 => ?_)
      refine ok_ite (fun q45 => ?_) (fun q45 => ?_)
      · refine ok_gd ?_ (fun g46 => ?_)
        · have c47 : (0 : Int32) ≤ (M.1 26 0 38) ∧ (M.1 26 0 38) ≤ (12 : Int32) := hM.at1 26 0 38
          have c48 : (0 : Int32) ≤ (M.1 26 0 39) ∧ (M.1 26 0 39) ≤ (6 : Int32) := hM.at1 26 0 39
          exact vp_of (by decide) (by grind) (show ((M.1 26 0 38) - (1 : Int32)) < (12 : Int32) by grind)
        have g46 := vp_to (by decide) g46
        have g46 : (0 : Int32) ≤ ((M.1 26 0 38) - (1 : Int32)) ∧ ((M.1 26 0 38) - (1 : Int32)) < (12 : Int32) := g46
        refine ok_lq (fun M28 eq_49 => ?_)
        have hM28 : IV A B M28 := by rw [eq_49]; exact hM.w1f rfl (a3 ((((M.1 26 0 38) - (1 : Int32))).toNatClampNeg)) rfl
        refine ok_gd ?_ (fun g50 => ?_)
        · have c51 : (0 : Int32) ≤ (M28.1 26 0 38) ∧ (M28.1 26 0 38) ≤ (12 : Int32) := hM28.at1 26 0 38
          have c52 : (M28.1 26 0 38) = (M.1 26 0 38) := by rw [eq_49]; exact up_k (by decide)
          have c53 : (0 : Int32) ≤ (M.1 26 0 38) ∧ (M.1 26 0 38) ≤ (12 : Int32) := hM.at1 26 0 38
          exact vp_of (by decide) (by grind) (show ((M28.1 26 0 38) - (2 : Int32)) < (12 : Int32) by grind)
        have g50 := vp_to (by decide) g50
        have g50 : (0 : Int32) ≤ ((M28.1 26 0 38) - (2 : Int32)) ∧ ((M28.1 26 0 38) - (2 : Int32)) < (12 : Int32) := g50
        refine ok_lq (fun M30 eq_54 => ?_)
        have hM30 : IV A B M30 := by rw [eq_54]; exact hM28.w1f rfl (a3 ((((M28.1 26 0 38) - (2 : Int32))).toNatClampNeg)) rfl
        exact ok_some ⟨hM30, trivial⟩
      · refine ok_lq (fun M14 eq_55 => ?_)
        have pf56 : (0 : Int32) ≤ ((M.1 26 0 38) - (1 : Int32)) ∧ ((M.1 26 0 38) - (1 : Int32)) ≤ (12 : Int32) := by
          have c57 : (0 : Int32) ≤ (M.1 26 0 38) ∧ (M.1 26 0 38) ≤ (12 : Int32) := hM.at1 26 0 38
          have c58 : (0 : Int32) ≤ (M.1 26 0 39) ∧ (M.1 26 0 39) ≤ (6 : Int32) := hM.at1 26 0 39
          exact ⟨by grind, by grind⟩
        have hM14 : IV A B M14 := by rw [eq_55]; exact hM.w1 rfl (a1) pf56
        refine ok_ite (fun q59 => ?_) (fun q59 => ?_)
        · refine ok_gd ?_ (fun g60 => ?_)
          · have c61 : (0 : Int32) ≤ (M14.1 26 0 38) ∧ (M14.1 26 0 38) ≤ (12 : Int32) := hM14.at1 26 0 38
            have c62 : (M14.1 26 0 38) = ((M.1 26 0 38) - (1 : Int32)) := by rw [eq_55]; exact up_s
            have c63 : (0 : Int32) ≤ (M.1 26 0 38) ∧ (M.1 26 0 38) ≤ (12 : Int32) := hM.at1 26 0 38
            exact vp_of (by decide) (by grind) (show ((M14.1 26 0 38) - (1 : Int32)) < (12 : Int32) by grind)
          have g60 := vp_to (by decide) g60
          have g60 : (0 : Int32) ≤ ((M14.1 26 0 38) - (1 : Int32)) ∧ ((M14.1 26 0 38) - (1 : Int32)) < (12 : Int32) := g60
          refine ok_lq (fun M26 eq_64 => ?_)
          have hM26 : IV A B M26 := by rw [eq_64]; exact hM14.w1f rfl (a3 ((((M14.1 26 0 38) - (1 : Int32))).toNatClampNeg)) rfl
          exact ok_some ⟨hM26, trivial⟩
        · refine ok_ite (fun q65 => ?_) (fun q65 => ?_)
          · refine ok_gd ?_ (fun g66 => ?_)
            · have c67 : (0 : Int32) ≤ (M14.1 26 0 38) ∧ (M14.1 26 0 38) ≤ (12 : Int32) := hM14.at1 26 0 38
              have c68 : (M14.1 26 0 38) = ((M.1 26 0 38) - (1 : Int32)) := by rw [eq_55]; exact up_s
              have c69 : (0 : Int32) ≤ (M.1 26 0 38) ∧ (M.1 26 0 38) ≤ (12 : Int32) := hM.at1 26 0 38
              exact vp_of (by decide) (by grind) (show ((M14.1 26 0 38) - (1 : Int32)) < (12 : Int32) by grind)
            have g66 := vp_to (by decide) g66
            have g66 : (0 : Int32) ≤ ((M14.1 26 0 38) - (1 : Int32)) ∧ ((M14.1 26 0 38) - (1 : Int32)) < (12 : Int32) := g66
            refine ok_lq (fun M24 eq_70 => ?_)
            have hM24 : IV A B M24 := by rw [eq_70]; exact hM14.w1f rfl (a3 ((((M14.1 26 0 38) - (1 : Int32))).toNatClampNeg)) rfl
            exact ok_some ⟨hM24, trivial⟩
          · refine ok_ite (fun q71 => ?_) (fun q71 => ?_)
            · refine ok_gd ?_ (fun g72 => ?_)
              · have c73 : (0 : Int32) ≤ (M14.1 26 0 38) ∧ (M14.1 26 0 38) ≤ (12 : Int32) := hM14.at1 26 0 38
                have c74 : (M14.1 26 0 38) = ((M.1 26 0 38) - (1 : Int32)) := by rw [eq_55]; exact up_s
                have c75 : (0 : Int32) ≤ (M.1 26 0 38) ∧ (M.1 26 0 38) ≤ (12 : Int32) := hM.at1 26 0 38
                exact vp_of (by decide) (by grind) (show ((M14.1 26 0 38) - (1 : Int32)) < (12 : Int32) by grind)
              have g72 := vp_to (by decide) g72
              have g72 : (0 : Int32) ≤ ((M14.1 26 0 38) - (1 : Int32)) ∧ ((M14.1 26 0 38) - (1 : Int32)) < (12 : Int32) := g72
              refine ok_lq (fun M22 eq_76 => ?_)
              have hM22 : IV A B M22 := by rw [eq_76]; exact hM14.w1f rfl (a3 ((((M14.1 26 0 38) - (1 : Int32))).toNatClampNeg)) rfl
              exact ok_some ⟨hM22, trivial⟩
            · refine ok_gd ?_ (fun g77 => ?_)
              · have c78 : (0 : Int32) ≤ (M.1 26 0 38) ∧ (M.1 26 0 38) ≤ (12 : Int32) := hM.at1 26 0 38
                have c79 : (0 : Int32) ≤ (M.1 26 0 39) ∧ (M.1 26 0 39) ≤ (6 : Int32) := hM.at1 26 0 39
                grind
              refine ok_gd ?_ (fun g80 => ?_)
              · have c81 : (0 : Int32) ≤ (M14.1 26 0 38) ∧ (M14.1 26 0 38) ≤ (12 : Int32) := hM14.at1 26 0 38
                have c82 : (M14.1 26 0 38) = ((M.1 26 0 38) - (1 : Int32)) := by rw [eq_55]; exact up_s
                have c83 : (0 : Int32) ≤ (M.1 26 0 38) ∧ (M.1 26 0 38) ≤ (12 : Int32) := hM.at1 26 0 38
                exact vp_of (by decide) (by grind) (show ((M14.1 26 0 38) - (1 : Int32)) < (12 : Int32) by grind)
              have g80 := vp_to (by decide) g80
              have g80 : (0 : Int32) ≤ ((M14.1 26 0 38) - (1 : Int32)) ∧ ((M14.1 26 0 38) - (1 : Int32)) < (12 : Int32) := g80
              refine ok_lq (fun M20 eq_84 => ?_)
              have hM20 : IV A B M20 := by rw [eq_84]; exact hM14.w1f rfl (a3 ((((M14.1 26 0 38) - (1 : Int32))).toNatClampNeg)) rfl
              exact ok_some ⟨hM20, trivial⟩
theorem s_X7_runs_L399 {A : Nat → Nat → Nat → Prop} {B : SS} (M5 : SS) (hM5 : IV A B M5) (p1 : Int32) (ip1 : (0 : Int32) ≤ p1 ∧ p1 ≤ (39 : Int32)) : ∀ (n : Nat), ∀ (v14 : Int32) (v15 : Int32) (k12 : (Int32 → Option (SS × Int32))), (FU v14 6 n) → ((0 : Int32) ≤ v14 ∧ v14 ≤ (6 : Int32)) → ((0 : Int32) ≤ v15 ∧ v15 ≤ (1 : Int32)) → (∀ (k_0 : Int32), ((0 : Int32) ≤ k_0 ∧ k_0 ≤ (1 : Int32)) → ok (k12 k_0) (fun r => IV A B r.1 ∧ (101 : Int32) ≤ r.2 ∧ r.2 ≤ (122 : Int32))) → ok (f_X7_runs_L399 M5 p1 n v14 v15 k12) (fun r => IV A B r.1 ∧ (101 : Int32) ≤ r.2 ∧ r.2 ≤ (122 : Int32)) := by
  intro n
  induction n with
  | zero =>
    intro v14 v15 k12 hF iv14 iv15 hk
    exact (FU.stop hF (show v14 ≤ (6 : Int32) by grind)).elim
  | succ n ih =>
    intro v14 v15 k12 hF iv14 iv15 hk
    rw [f_X7_runs_L399]
    refine ok_ite (fun q1 => ?_) (fun q1 => ?_)
    · have pf2 : (0 : Int32) ≤ v15 ∧ v15 ≤ (1 : Int32) := by
        exact ⟨by grind, by grind⟩
      exact hk v15 pf2
    · refine ok_ite (fun q3 => ?_) (fun q3 => ?_)
      · have pf4 : (0 : Int32) ≤ v15 ∧ v15 ≤ (1 : Int32) := by
          exact ⟨by grind, by grind⟩
        exact hk v15 pf4
      · refine ok_gd ?_ (fun g5 => ?_)
        · have c6 : (0 : Int32) ≤ (M5.1 26 0 39) ∧ (M5.1 26 0 39) ≤ (6 : Int32) := hM5.at1 26 0 39
          exact vp_of (by decide) (by grind) (show v14 < (6 : Int32) by grind)
        have g5 := vp_to (by decide) g5
        have g5 : (0 : Int32) ≤ v14 ∧ v14 < (6 : Int32) := g5
        refine ok_gd ?_ (fun g7 => ?_)
        · have c8 : (0 : Int32) ≤ (M5.1 26 0 39) ∧ (M5.1 26 0 39) ≤ (6 : Int32) := hM5.at1 26 0 39
          exact vp_of (by decide) (by grind) (show (((6 : Int32) * p1) + v14) < (240 : Int32) by grind)
        have g7 := vp_to (by decide) g7
        have g7 : (0 : Int32) ≤ (((6 : Int32) * p1) + v14) ∧ (((6 : Int32) * p1) + v14) < (240 : Int32) := g7
        refine ok_ite (fun q9 => ?_) (fun q9 => ?_)
        · have pf10 : FU (v14 + (1 : Int32)) 6 n := by
            have c11 : (0 : Int32) ≤ (M5.1 26 0 39) ∧ (M5.1 26 0 39) ≤ (6 : Int32) := hM5.at1 26 0 39
            exact FU.step hF (by grind)
          have pf12 : (0 : Int32) ≤ (v14 + (1 : Int32)) ∧ (v14 + (1 : Int32)) ≤ (6 : Int32) := by
            have c13 : (0 : Int32) ≤ (M5.1 26 0 39) ∧ (M5.1 26 0 39) ≤ (6 : Int32) := hM5.at1 26 0 39
            exact ⟨by grind, by grind⟩
          exact ih (v14 + (1 : Int32)) (1 : Int32) k12 pf10 pf12 (show (0 : Int32) ≤ (1 : Int32) ∧ (1 : Int32) ≤ (1 : Int32) from ⟨by decide, by decide⟩) hk
        · have pf14 : FU (v14 + (1 : Int32)) 6 n := by
            have c15 : (0 : Int32) ≤ (M5.1 26 0 39) ∧ (M5.1 26 0 39) ≤ (6 : Int32) := hM5.at1 26 0 39
            exact FU.step hF (by grind)
          have pf16 : (0 : Int32) ≤ (v14 + (1 : Int32)) ∧ (v14 + (1 : Int32)) ≤ (6 : Int32) := by
            have c17 : (0 : Int32) ≤ (M5.1 26 0 39) ∧ (M5.1 26 0 39) ≤ (6 : Int32) := hM5.at1 26 0 39
            exact ⟨by grind, by grind⟩
          exact ih (v14 + (1 : Int32)) (0 : Int32) k12 pf14 pf16 (show (0 : Int32) ≤ (0 : Int32) ∧ (0 : Int32) ≤ (1 : Int32) from ⟨by decide, by decide⟩) hk
theorem s_X7_runs_J181 {A : Nat → Nat → Nat → Prop} {B : SS} (M8 : SS) (hM8 : IV A B M8) (v27 : Int32) (iv27 : (0 : Int32) ≤ v27 ∧ v27 ≤ (1 : Int32)) (v26 : Int32) (iv26 : (0 : Int32) ≤ v26 ∧ v26 ≤ (65535 : Int32)) (p0 : Int32) (ip0 : (0 : Int32) ≤ p0 ∧ p0 ≤ (40 : Int32)) (v6 : Int32) (iv6 : (0 : Int32) ≤ v6 ∧ v6 ≤ (23 : Int32)) (v7 : Int32) (iv7 : (0 : Int32) ≤ v7 ∧ v7 ≤ (4 : Int32)) (p1 : Int32) (ip1 : (0 : Int32) ≤ p1 ∧ p1 ≤ (39 : Int32)) (x0 : isL v26) (x1 : (v27 = 0 ∧ ¬ v26 = 110 ∧ ¬ v26 = 105 ∧ ¬ v26 = 100) ∨ (v27 = 1 ∧ (v26 = 110 ∨ v26 = 105 ∨ v26 = 100))) (x2 : v7 ≤ (M8.1 34 0 (p1).toNatClampNeg)) (x3 : (M8.1 26 0 40) < (300 : Int32)) (x4 : (v26 = 43 ∨ v26 = 45 ∨ v26 = 42 ∨ v26 = 37 ∨ v26 = 115) → (2 : Int32) ≤ (M8.1 26 0 38)) (x5 : ¬ v26 = 110 → ¬ v26 = 105 → (1 : Int32) ≤ (M8.1 26 0 38)) (x6 : v26 = 105 → v7 < (M8.1 34 0 (p1).toNatClampNeg)) (x7 : v26 = 37 → ¬ (M8.1 53 0 (((M8.1 26 0 38) - (1 : Int32))).toNatClampNeg) = 0) (x8 : v27 = 1 → (M8.1 26 0 38) < (12 : Int32)) (x9 : v26 = 111 → (M8.1 26 0 39) < (6 : Int32)) (a1 : A 26 0 38) (a2 : A 26 0 39) (a3 : A 26 0 40) (a4 : ∀ p, A 53 0 p) (a5 : ∀ p, A 54 0 p) {n : Nat} (rc : Int32 → Int32 → SS → (SS → Option (SS × Int32)) → Option (SS × Int32)) (hrc : ∀ (v6 : Int32) (v7 : Int32) (M8 : SS) (k4 : (SS → Option (SS × Int32))), (FU ((M8.1 26 0 40)) 300 n) → ((0 : Int32) ≤ v6 ∧ v6 ≤ (24 : Int32)) → ((0 : Int32) ≤ v7 ∧ v7 ≤ (4 : Int32)) → (IV A B M8) → (v7 ≤ (M8.1 34 0 (p1).toNatClampNeg)) → (∀ (k_0 : SS), (IV A B k_0) → ok (k4 k_0) (fun r => IV A B r.1 ∧ (101 : Int32) ≤ r.2 ∧ r.2 ≤ (122 : Int32))) → ok (rc v6 v7 M8 k4) (fun r => IV A B r.1 ∧ (101 : Int32) ≤ r.2 ∧ r.2 ≤ (122 : Int32))) (k4 : SS → Option (SS × Int32)) (hk : ∀ (k_0 : SS), (IV A B k_0) → ok (k4 k_0) (fun r => IV A B r.1 ∧ (101 : Int32) ≤ r.2 ∧ r.2 ≤ (122 : Int32))) (hF : FU ((M8.1 26 0 40)) 300 (n + 1)) : ok (f_X7_runs_J181 rc k4 M8 v27 v26 p0 v6 v7 p1) (fun r => IV A B r.1 ∧ (101 : Int32) ≤ r.2 ∧ r.2 ≤ (122 : Int32)) := by
  unfold f_X7_runs_J181
  refine ok_lq (fun M37 eq_1 => ?_)
  have pf2 : (0 : Int32) ≤ ((M8.1 26 0 40) + (1 : Int32)) ∧ ((M8.1 26 0 40) + (1 : Int32)) ≤ (300 : Int32) := by
    have c3 : (0 : Int32) ≤ (M8.1 26 0 40) ∧ (M8.1 26 0 40) ≤ (300 : Int32) := hM8.at1 26 0 40
    exact ⟨by grind, by grind⟩
  have hM37 : IV A B M37 := by rw [eq_1]; exact hM8.w1 rfl (a3) pf2
  refine ok_ite (fun q4 => ?_) (fun q4 => ?_)
  · refine ok_ite (fun q5 => ?_) (fun q5 => ?_)
    · refine ok_gd ?_ (fun g6 => ?_)
      · have c7 : (0 : Int32) ≤ (M37.1 26 0 38) ∧ (M37.1 26 0 38) ≤ (12 : Int32) := hM37.at1 26 0 38
        have c8 : (M37.1 26 0 38) = (M8.1 26 0 38) := by rw [eq_1]; exact up_p (by decide)
        have c9 : (0 : Int32) ≤ (M8.1 26 0 38) ∧ (M8.1 26 0 38) ≤ (12 : Int32) := hM8.at1 26 0 38
        exact vp_of (by decide) (by grind) (show ((M37.1 26 0 38) - (1 : Int32)) < (12 : Int32) by grind)
      have g6 := vp_to (by decide) g6
      have g6 : (0 : Int32) ≤ ((M37.1 26 0 38) - (1 : Int32)) ∧ ((M37.1 26 0 38) - (1 : Int32)) < (12 : Int32) := g6
      refine ok_ite (fun q10 => ?_) (fun q10 => ?_)
      · have pf11 : (0 : Int32) ≤ p0 ∧ p0 ≤ (40 : Int32) := by
          exact ⟨by grind, by grind⟩
        have pf12 : (0 : Int32) ≤ v6 ∧ v6 ≤ (23 : Int32) := by
          exact ⟨by grind, by grind⟩
        have pf13 : (1 : Int32) = 1 ∨ (1 : Int32) = (-1) := by
          have c14 : (0 : Int32) ≤ (M8.1 34 0 (p1).toNatClampNeg) ∧ (M8.1 34 0 (p1).toNatClampNeg) ≤ (4 : Int32) := hM8.at1 34 0 ((p1).toNatClampNeg)
          have c15 : (0 : Int32) ≤ (M8.1 26 0 40) ∧ (M8.1 26 0 40) ≤ (300 : Int32) := hM8.at1 26 0 40
          have c16 : (0 : Int32) ≤ (M8.1 26 0 38) ∧ (M8.1 26 0 38) ≤ (12 : Int32) := hM8.at1 26 0 38
          have c17 : (0 : Int32) ≤ (M8.1 26 0 39) ∧ (M8.1 26 0 39) ≤ (6 : Int32) := hM8.at1 26 0 39
          have c18 : (0 : Int32) ≤ (M37.1 26 0 38) ∧ (M37.1 26 0 38) ≤ (12 : Int32) := hM37.at1 26 0 38
          have c19 : (M37.1 26 0 38) = (M8.1 26 0 38) := by rw [eq_1]; exact up_p (by decide)
          have c20 : (M37.1 53 0 (((M37.1 26 0 38) - (1 : Int32))).toNatClampNeg) = (M8.1 53 0 (((M37.1 26 0 38) - (1 : Int32))).toNatClampNeg) := by rw [eq_1]; exact up_k (by decide)
          grind [isL]
        refine ok_b0 (s_X7_partner M37 hM37 p0 pf11 v6 pf12 (1 : Int32) (show ((-1) : Int32) ≤ (1 : Int32) ∧ (1 : Int32) ≤ (1 : Int32) from ⟨by decide, by decide⟩) pf13) (fun v50 w21 => ?_)
        have w22 : ((-1) : Int32) ≤ v50 ∧ v50 ≤ (23 : Int32) := w21
        have pf23 : FU (M37.1 26 0 40) 300 n := by
          have c24 : (0 : Int32) ≤ (M37.1 26 0 40) ∧ (M37.1 26 0 40) ≤ (300 : Int32) := hM37.at1 26 0 40
          have c25 : (M37.1 26 0 40) = ((M8.1 26 0 40) + (1 : Int32)) := by rw [eq_1]; exact up_s
          have c26 : (0 : Int32) ≤ (M8.1 26 0 40) ∧ (M8.1 26 0 40) ≤ (300 : Int32) := hM8.at1 26 0 40
          exact FU.stepe hF (by grind) (by grind)
        have pf27 : (0 : Int32) ≤ (v50 + (1 : Int32)) ∧ (v50 + (1 : Int32)) ≤ (24 : Int32) := by
          exact ⟨by grind, by grind⟩
        have pf28 : (0 : Int32) ≤ v7 ∧ v7 ≤ (4 : Int32) := by
          have c29 : (0 : Int32) ≤ (M8.1 34 0 (p1).toNatClampNeg) ∧ (M8.1 34 0 (p1).toNatClampNeg) ≤ (4 : Int32) := hM8.at1 34 0 ((p1).toNatClampNeg)
          have c30 : (0 : Int32) ≤ (M8.1 26 0 38) ∧ (M8.1 26 0 38) ≤ (12 : Int32) := hM8.at1 26 0 38
          have c31 : (0 : Int32) ≤ (M8.1 26 0 39) ∧ (M8.1 26 0 39) ≤ (6 : Int32) := hM8.at1 26 0 39
          exact ⟨by grind, by grind⟩
        have pf32 : v7 ≤ (M37.1 34 0 (p1).toNatClampNeg) := by
          have c33 : (0 : Int32) ≤ (M37.1 34 0 (p1).toNatClampNeg) ∧ (M37.1 34 0 (p1).toNatClampNeg) ≤ (4 : Int32) := hM37.at1 34 0 ((p1).toNatClampNeg)
          have c34 : (M37.1 34 0 (p1).toNatClampNeg) = (M8.1 34 0 (p1).toNatClampNeg) := by rw [eq_1]; exact up_k (by decide)
          have c35 : (0 : Int32) ≤ (M8.1 34 0 (p1).toNatClampNeg) ∧ (M8.1 34 0 (p1).toNatClampNeg) ≤ (4 : Int32) := hM8.at1 34 0 ((p1).toNatClampNeg)
          have c36 : (0 : Int32) ≤ (M8.1 26 0 38) ∧ (M8.1 26 0 38) ≤ (12 : Int32) := hM8.at1 26 0 38
          have c37 : (0 : Int32) ≤ (M8.1 26 0 39) ∧ (M8.1 26 0 39) ≤ (6 : Int32) := hM8.at1 26 0 39
          grind [isL]
        exact hrc (v50 + (1 : Int32)) v7 M37 k4 pf23 pf27 pf28 hM37 pf32 hk
      · have pf38 : FU (M37.1 26 0 40) 300 n := by
          have c39 : (0 : Int32) ≤ (M37.1 26 0 40) ∧ (M37.1 26 0 40) ≤ (300 : Int32) := hM37.at1 26 0 40
          have c40 : (M37.1 26 0 40) = ((M8.1 26 0 40) + (1 : Int32)) := by rw [eq_1]; exact up_s
          have c41 : (0 : Int32) ≤ (M8.1 26 0 40) ∧ (M8.1 26 0 40) ≤ (300 : Int32) := hM8.at1 26 0 40
          exact FU.stepe hF (by grind) (by grind)
        have pf42 : (0 : Int32) ≤ (v6 + (1 : Int32)) ∧ (v6 + (1 : Int32)) ≤ (24 : Int32) := by
          exact ⟨by grind, by grind⟩
        have pf43 : (0 : Int32) ≤ v7 ∧ v7 ≤ (4 : Int32) := by
          have c44 : (0 : Int32) ≤ (M8.1 34 0 (p1).toNatClampNeg) ∧ (M8.1 34 0 (p1).toNatClampNeg) ≤ (4 : Int32) := hM8.at1 34 0 ((p1).toNatClampNeg)
          have c45 : (0 : Int32) ≤ (M8.1 26 0 38) ∧ (M8.1 26 0 38) ≤ (12 : Int32) := hM8.at1 26 0 38
          have c46 : (0 : Int32) ≤ (M8.1 26 0 39) ∧ (M8.1 26 0 39) ≤ (6 : Int32) := hM8.at1 26 0 39
          exact ⟨by grind, by grind⟩
        have pf47 : v7 ≤ (M37.1 34 0 (p1).toNatClampNeg) := by
          have c48 : (0 : Int32) ≤ (M37.1 34 0 (p1).toNatClampNeg) ∧ (M37.1 34 0 (p1).toNatClampNeg) ≤ (4 : Int32) := hM37.at1 34 0 ((p1).toNatClampNeg)
          have c49 : (M37.1 34 0 (p1).toNatClampNeg) = (M8.1 34 0 (p1).toNatClampNeg) := by rw [eq_1]; exact up_k (by decide)
          have c50 : (0 : Int32) ≤ (M8.1 34 0 (p1).toNatClampNeg) ∧ (M8.1 34 0 (p1).toNatClampNeg) ≤ (4 : Int32) := hM8.at1 34 0 ((p1).toNatClampNeg)
          have c51 : (0 : Int32) ≤ (M8.1 26 0 38) ∧ (M8.1 26 0 38) ≤ (12 : Int32) := hM8.at1 26 0 38
          have c52 : (0 : Int32) ≤ (M8.1 26 0 39) ∧ (M8.1 26 0 39) ≤ (6 : Int32) := hM8.at1 26 0 39
          grind [isL]
        exact hrc (v6 + (1 : Int32)) v7 M37 k4 pf38 pf42 pf43 hM37 pf47 hk
    · refine ok_ite (fun q53 => ?_) (fun q53 => ?_)
      · refine ok_gd ?_ (fun g54 => ?_)
        · have c55 : (0 : Int32) ≤ (M37.1 26 0 38) ∧ (M37.1 26 0 38) ≤ (12 : Int32) := hM37.at1 26 0 38
          have c56 : (M37.1 26 0 38) = (M8.1 26 0 38) := by rw [eq_1]; exact up_p (by decide)
          have c57 : (0 : Int32) ≤ (M8.1 26 0 38) ∧ (M8.1 26 0 38) ≤ (12 : Int32) := hM8.at1 26 0 38
          exact vp_of (by decide) (by grind) (show ((M37.1 26 0 38) - (1 : Int32)) < (12 : Int32) by grind)
        have g54 := vp_to (by decide) g54
        have g54 : (0 : Int32) ≤ ((M37.1 26 0 38) - (1 : Int32)) ∧ ((M37.1 26 0 38) - (1 : Int32)) < (12 : Int32) := g54
        refine ok_ite (fun q58 => ?_) (fun q58 => ?_)
        · have pf59 : FU (M37.1 26 0 40) 300 n := by
            have c60 : (0 : Int32) ≤ (M37.1 26 0 40) ∧ (M37.1 26 0 40) ≤ (300 : Int32) := hM37.at1 26 0 40
            have c61 : (M37.1 26 0 40) = ((M8.1 26 0 40) + (1 : Int32)) := by rw [eq_1]; exact up_s
            have c62 : (0 : Int32) ≤ (M8.1 26 0 40) ∧ (M8.1 26 0 40) ≤ (300 : Int32) := hM8.at1 26 0 40
            exact FU.stepe hF (by grind) (by grind)
          have pf63 : (0 : Int32) ≤ (v6 + (1 : Int32)) ∧ (v6 + (1 : Int32)) ≤ (24 : Int32) := by
            exact ⟨by grind, by grind⟩
          have pf64 : (0 : Int32) ≤ v7 ∧ v7 ≤ (4 : Int32) := by
            have c65 : (0 : Int32) ≤ (M8.1 34 0 (p1).toNatClampNeg) ∧ (M8.1 34 0 (p1).toNatClampNeg) ≤ (4 : Int32) := hM8.at1 34 0 ((p1).toNatClampNeg)
            have c66 : (0 : Int32) ≤ (M8.1 26 0 38) ∧ (M8.1 26 0 38) ≤ (12 : Int32) := hM8.at1 26 0 38
            have c67 : (0 : Int32) ≤ (M8.1 26 0 39) ∧ (M8.1 26 0 39) ≤ (6 : Int32) := hM8.at1 26 0 39
            exact ⟨by grind, by grind⟩
          have pf68 : v7 ≤ (M37.1 34 0 (p1).toNatClampNeg) := by
            have c69 : (0 : Int32) ≤ (M37.1 34 0 (p1).toNatClampNeg) ∧ (M37.1 34 0 (p1).toNatClampNeg) ≤ (4 : Int32) := hM37.at1 34 0 ((p1).toNatClampNeg)
            have c70 : (M37.1 34 0 (p1).toNatClampNeg) = (M8.1 34 0 (p1).toNatClampNeg) := by rw [eq_1]; exact up_k (by decide)
            have c71 : (0 : Int32) ≤ (M8.1 34 0 (p1).toNatClampNeg) ∧ (M8.1 34 0 (p1).toNatClampNeg) ≤ (4 : Int32) := hM8.at1 34 0 ((p1).toNatClampNeg)
            have c72 : (0 : Int32) ≤ (M8.1 26 0 38) ∧ (M8.1 26 0 38) ≤ (12 : Int32) := hM8.at1 26 0 38
            have c73 : (0 : Int32) ≤ (M8.1 26 0 39) ∧ (M8.1 26 0 39) ≤ (6 : Int32) := hM8.at1 26 0 39
            grind [isL]
          exact hrc (v6 + (1 : Int32)) v7 M37 k4 pf59 pf63 pf64 hM37 pf68 hk
        · have pf74 : (0 : Int32) ≤ p0 ∧ p0 ≤ (40 : Int32) := by
            exact ⟨by grind, by grind⟩
          have pf75 : (0 : Int32) ≤ v6 ∧ v6 ≤ (23 : Int32) := by
            exact ⟨by grind, by grind⟩
          have pf76 : ((-1) : Int32) = 1 ∨ ((-1) : Int32) = (-1) := by
            have c77 : (0 : Int32) ≤ (M8.1 34 0 (p1).toNatClampNeg) ∧ (M8.1 34 0 (p1).toNatClampNeg) ≤ (4 : Int32) := hM8.at1 34 0 ((p1).toNatClampNeg)
            have c78 : (0 : Int32) ≤ (M8.1 26 0 40) ∧ (M8.1 26 0 40) ≤ (300 : Int32) := hM8.at1 26 0 40
            have c79 : (0 : Int32) ≤ (M8.1 26 0 38) ∧ (M8.1 26 0 38) ≤ (12 : Int32) := hM8.at1 26 0 38
            have c80 : (0 : Int32) ≤ (M8.1 26 0 39) ∧ (M8.1 26 0 39) ≤ (6 : Int32) := hM8.at1 26 0 39
            have c81 : (0 : Int32) ≤ (M37.1 26 0 38) ∧ (M37.1 26 0 38) ≤ (12 : Int32) := hM37.at1 26 0 38
            have c82 : (M37.1 26 0 38) = (M8.1 26 0 38) := by rw [eq_1]; exact up_p (by decide)
            have c83 : (M37.1 53 0 (((M37.1 26 0 38) - (1 : Int32))).toNatClampNeg) = (M8.1 53 0 (((M37.1 26 0 38) - (1 : Int32))).toNatClampNeg) := by rw [eq_1]; exact up_k (by decide)
            grind [isL]
          refine ok_b0 (s_X7_partner M37 hM37 p0 pf74 v6 pf75 ((-1) : Int32) (show ((-1) : Int32) ≤ ((-1) : Int32) ∧ ((-1) : Int32) ≤ (1 : Int32) from ⟨by decide, by decide⟩) pf76) (fun v46 w84 => ?_)
          have w85 : ((-1) : Int32) ≤ v46 ∧ v46 ≤ (23 : Int32) := w84
          have pf86 : FU (M37.1 26 0 40) 300 n := by
            have c87 : (0 : Int32) ≤ (M37.1 26 0 40) ∧ (M37.1 26 0 40) ≤ (300 : Int32) := hM37.at1 26 0 40
            have c88 : (M37.1 26 0 40) = ((M8.1 26 0 40) + (1 : Int32)) := by rw [eq_1]; exact up_s
            have c89 : (0 : Int32) ≤ (M8.1 26 0 40) ∧ (M8.1 26 0 40) ≤ (300 : Int32) := hM8.at1 26 0 40
            exact FU.stepe hF (by grind) (by grind)
          have pf90 : (0 : Int32) ≤ (v46 + (1 : Int32)) ∧ (v46 + (1 : Int32)) ≤ (24 : Int32) := by
            exact ⟨by grind, by grind⟩
          have pf91 : (0 : Int32) ≤ v7 ∧ v7 ≤ (4 : Int32) := by
            have c92 : (0 : Int32) ≤ (M8.1 34 0 (p1).toNatClampNeg) ∧ (M8.1 34 0 (p1).toNatClampNeg) ≤ (4 : Int32) := hM8.at1 34 0 ((p1).toNatClampNeg)
            have c93 : (0 : Int32) ≤ (M8.1 26 0 38) ∧ (M8.1 26 0 38) ≤ (12 : Int32) := hM8.at1 26 0 38
            have c94 : (0 : Int32) ≤ (M8.1 26 0 39) ∧ (M8.1 26 0 39) ≤ (6 : Int32) := hM8.at1 26 0 39
            exact ⟨by grind, by grind⟩
          have pf95 : v7 ≤ (M37.1 34 0 (p1).toNatClampNeg) := by
            have c96 : (0 : Int32) ≤ (M37.1 34 0 (p1).toNatClampNeg) ∧ (M37.1 34 0 (p1).toNatClampNeg) ≤ (4 : Int32) := hM37.at1 34 0 ((p1).toNatClampNeg)
            have c97 : (M37.1 34 0 (p1).toNatClampNeg) = (M8.1 34 0 (p1).toNatClampNeg) := by rw [eq_1]; exact up_k (by decide)
            have c98 : (0 : Int32) ≤ (M8.1 34 0 (p1).toNatClampNeg) ∧ (M8.1 34 0 (p1).toNatClampNeg) ≤ (4 : Int32) := hM8.at1 34 0 ((p1).toNatClampNeg)
            have c99 : (0 : Int32) ≤ (M8.1 26 0 38) ∧ (M8.1 26 0 38) ≤ (12 : Int32) := hM8.at1 26 0 38
            have c100 : (0 : Int32) ≤ (M8.1 26 0 39) ∧ (M8.1 26 0 39) ≤ (6 : Int32) := hM8.at1 26 0 39
            grind [isL]
          exact hrc (v46 + (1 : Int32)) v7 M37 k4 pf86 pf90 pf91 hM37 pf95 hk
      · have pf101 : (0 : Int32) ≤ v26 ∧ v26 ≤ (65535 : Int32) := by
          have c102 : (0 : Int32) ≤ (M8.1 26 0 38) ∧ (M8.1 26 0 38) ≤ (12 : Int32) := hM8.at1 26 0 38
          have c103 : (0 : Int32) ≤ (M8.1 34 0 (p1).toNatClampNeg) ∧ (M8.1 34 0 (p1).toNatClampNeg) ≤ (4 : Int32) := hM8.at1 34 0 ((p1).toNatClampNeg)
          have c104 : (0 : Int32) ≤ (M8.1 26 0 39) ∧ (M8.1 26 0 39) ≤ (6 : Int32) := hM8.at1 26 0 39
          exact ⟨by grind, by grind⟩
        have pf105 : (1 : Int32) ≤ (M37.1 26 0 38) := by
          have c106 : (0 : Int32) ≤ (M37.1 26 0 38) ∧ (M37.1 26 0 38) ≤ (12 : Int32) := hM37.at1 26 0 38
          have c107 : (M37.1 26 0 38) = (M8.1 26 0 38) := by rw [eq_1]; exact up_p (by decide)
          have c108 : (0 : Int32) ≤ (M8.1 26 0 38) ∧ (M8.1 26 0 38) ≤ (12 : Int32) := hM8.at1 26 0 38
          grind [isL]
        have pf109 : v26 = 112 ∨ v26 = 111 ∨ (2 : Int32) ≤ (M37.1 26 0 38) := by
          have c110 : (0 : Int32) ≤ (M37.1 26 0 38) ∧ (M37.1 26 0 38) ≤ (12 : Int32) := hM37.at1 26 0 38
          have c111 : (M37.1 26 0 38) = (M8.1 26 0 38) := by rw [eq_1]; exact up_p (by decide)
          have c112 : (0 : Int32) ≤ (M8.1 26 0 38) ∧ (M8.1 26 0 38) ≤ (12 : Int32) := hM8.at1 26 0 38
          have c113 : (0 : Int32) ≤ (M8.1 34 0 (p1).toNatClampNeg) ∧ (M8.1 34 0 (p1).toNatClampNeg) ≤ (4 : Int32) := hM8.at1 34 0 ((p1).toNatClampNeg)
          have c114 : (0 : Int32) ≤ (M8.1 26 0 39) ∧ (M8.1 26 0 39) ≤ (6 : Int32) := hM8.at1 26 0 39
          grind [isL]
        have pf115 : (v26 = 112 ∨ v26 = 111 ∨ v26 = 115 ∨ v26 = 43 ∨ v26 = 45 ∨ v26 = 42) ∨ ¬ (M37.1 53 0 (((M37.1 26 0 38) - (1 : Int32))).toNatClampNeg) = 0 := by
          have c116 : (M37.1 53 0 (((M37.1 26 0 38) - (1 : Int32))).toNatClampNeg) = (M8.1 53 0 (((M37.1 26 0 38) - (1 : Int32))).toNatClampNeg) := by rw [eq_1]; exact up_k (by decide)
          have c117 : (0 : Int32) ≤ (M37.1 26 0 38) ∧ (M37.1 26 0 38) ≤ (12 : Int32) := hM37.at1 26 0 38
          have c118 : (M37.1 26 0 38) = (M8.1 26 0 38) := by rw [eq_1]; exact up_p (by decide)
          have c119 : (0 : Int32) ≤ (M8.1 26 0 38) ∧ (M8.1 26 0 38) ≤ (12 : Int32) := hM8.at1 26 0 38
          have c120 : (0 : Int32) ≤ (M8.1 34 0 (p1).toNatClampNeg) ∧ (M8.1 34 0 (p1).toNatClampNeg) ≤ (4 : Int32) := hM8.at1 34 0 ((p1).toNatClampNeg)
          have c121 : (0 : Int32) ≤ (M8.1 26 0 39) ∧ (M8.1 26 0 39) ≤ (6 : Int32) := hM8.at1 26 0 39
          grind [isL]
        have pf122 : v26 = 111 → (M37.1 26 0 39) < (6 : Int32) := by
          have c123 : (0 : Int32) ≤ (M37.1 26 0 39) ∧ (M37.1 26 0 39) ≤ (6 : Int32) := hM37.at1 26 0 39
          have c124 : (M37.1 26 0 39) = (M8.1 26 0 39) := by rw [eq_1]; exact up_p (by decide)
          have c125 : (0 : Int32) ≤ (M8.1 26 0 38) ∧ (M8.1 26 0 38) ≤ (12 : Int32) := hM8.at1 26 0 38
          have c126 : (0 : Int32) ≤ (M8.1 34 0 (p1).toNatClampNeg) ∧ (M8.1 34 0 (p1).toNatClampNeg) ≤ (4 : Int32) := hM8.at1 34 0 ((p1).toNatClampNeg)
          have c127 : (0 : Int32) ≤ (M8.1 26 0 39) ∧ (M8.1 26 0 39) ≤ (6 : Int32) := hM8.at1 26 0 39
          grind [isL]
        have f128 := ok_and (s_X7_changes M37 hM37 v26 pf101 pf105 pf109 pf115 pf122 (a1) (a2) (fun p => a4 p) (fun p => a5 p)) (s_X7_changes (A := (fun k i p => (k = 26 ∧ p = 38) ∨ (k = 26 ∧ p = 39) ∨ (k = 53) ∨ (k = 54))) (B := M37) M37 hM37.self v26 pf101 pf105 pf109 pf115 pf122 (by simp) (by simp) (by simp) (by simp))
        refine ok_b1 f128 (fun M42 v41 w129 => ?_)
        have w129a := w129.1
        have w129f : IV (fun k i p => (k = 26 ∧ p = 38) ∨ (k = 26 ∧ p = 39) ∨ (k = 53) ∨ (k = 54)) M37 M42 := w129.2.1
        have hM42 : IV A B M42 := w129a.1
        have pf130 : FU (M42.1 26 0 40) 300 n := by
          have c131 : (0 : Int32) ≤ (M42.1 26 0 40) ∧ (M42.1 26 0 40) ≤ (300 : Int32) := hM42.at1 26 0 40
          have c132 : (M42.1 26 0 40) = (M37.1 26 0 40) := w129f.same (by simp)
          have c133 : (0 : Int32) ≤ (M8.1 26 0 40) ∧ (M8.1 26 0 40) ≤ (300 : Int32) := hM8.at1 26 0 40
          have c134 : (0 : Int32) ≤ (M37.1 26 0 40) ∧ (M37.1 26 0 40) ≤ (300 : Int32) := hM37.at1 26 0 40
          have c135 : (M37.1 26 0 40) = ((M8.1 26 0 40) + (1 : Int32)) := by rw [eq_1]; exact up_s
          exact FU.stepe hF (by grind) (by grind)
        have pf136 : (0 : Int32) ≤ (v6 + (1 : Int32)) ∧ (v6 + (1 : Int32)) ≤ (24 : Int32) := by
          exact ⟨by grind, by grind⟩
        have pf137 : (0 : Int32) ≤ v7 ∧ v7 ≤ (4 : Int32) := by
          have c138 : (0 : Int32) ≤ (M8.1 34 0 (p1).toNatClampNeg) ∧ (M8.1 34 0 (p1).toNatClampNeg) ≤ (4 : Int32) := hM8.at1 34 0 ((p1).toNatClampNeg)
          have c139 : (0 : Int32) ≤ (M8.1 26 0 38) ∧ (M8.1 26 0 38) ≤ (12 : Int32) := hM8.at1 26 0 38
          have c140 : (0 : Int32) ≤ (M8.1 26 0 39) ∧ (M8.1 26 0 39) ≤ (6 : Int32) := hM8.at1 26 0 39
          exact ⟨by grind, by grind⟩
        have pf141 : v7 ≤ (M42.1 34 0 (p1).toNatClampNeg) := by
          have c142 : (0 : Int32) ≤ (M42.1 34 0 (p1).toNatClampNeg) ∧ (M42.1 34 0 (p1).toNatClampNeg) ≤ (4 : Int32) := hM42.at1 34 0 ((p1).toNatClampNeg)
          have c143 : (M42.1 34 0 (p1).toNatClampNeg) = (M37.1 34 0 (p1).toNatClampNeg) := w129f.same (by simp)
          have c144 : (0 : Int32) ≤ (M8.1 34 0 (p1).toNatClampNeg) ∧ (M8.1 34 0 (p1).toNatClampNeg) ≤ (4 : Int32) := hM8.at1 34 0 ((p1).toNatClampNeg)
          have c145 : (0 : Int32) ≤ (M8.1 26 0 38) ∧ (M8.1 26 0 38) ≤ (12 : Int32) := hM8.at1 26 0 38
          have c146 : (0 : Int32) ≤ (M8.1 26 0 39) ∧ (M8.1 26 0 39) ≤ (6 : Int32) := hM8.at1 26 0 39
          have c147 : (0 : Int32) ≤ (M37.1 34 0 (p1).toNatClampNeg) ∧ (M37.1 34 0 (p1).toNatClampNeg) ≤ (4 : Int32) := hM37.at1 34 0 ((p1).toNatClampNeg)
          have c148 : (M37.1 34 0 (p1).toNatClampNeg) = (M8.1 34 0 (p1).toNatClampNeg) := by rw [eq_1]; exact up_k (by decide)
          grind [isL]
        exact hrc (v6 + (1 : Int32)) v7 M42 k4 pf130 pf136 pf137 hM42 pf141 hk
  · refine ok_ite (fun q149 => ?_) (fun q149 => ?_)
    · refine ok_gd ?_ (fun g150 => ?_)
      · exact vp_of (by decide) (by grind) (show (((24 : Int32) * p0) + v6) < (984 : Int32) by grind)
      have g150 := vp_to (by decide) g150
      have g150 : (0 : Int32) ≤ (((24 : Int32) * p0) + v6) ∧ (((24 : Int32) * p0) + v6) < (984 : Int32) := g150
      unfold f_X7_runs_J257
      refine ok_gd ?_ (fun g151 => ?_)
      · have c152 : (0 : Int32) ≤ (M37.1 26 0 38) ∧ (M37.1 26 0 38) ≤ (12 : Int32) := hM37.at1 26 0 38
        have c153 : (M37.1 26 0 38) = (M8.1 26 0 38) := by rw [eq_1]; exact up_p (by decide)
        have c154 : (0 : Int32) ≤ (M8.1 26 0 38) ∧ (M8.1 26 0 38) ≤ (12 : Int32) := hM8.at1 26 0 38
        exact vp_of (by decide) (by grind) (show (M37.1 26 0 38) < (12 : Int32) by grind)
      have g151 := vp_to (by decide) g151
      have g151 : (0 : Int32) ≤ (M37.1 26 0 38) ∧ (M37.1 26 0 38) < (12 : Int32) := g151
      refine ok_lq (fun M55 eq_155 => ?_)
      have hM55 : IV A B M55 := by rw [eq_155]; exact hM37.w1f rfl (a4 (((M37.1 26 0 38)).toNatClampNeg)) rfl
      refine ok_ite (fun q156 => ?_) (fun q156 => ?_)
      · unfold f_X7_runs_J271
        refine ok_lq (fun v58 eq_157 => ?_)
        refine ok_lq (fun M59 eq_158 => ?_)
        have pf159 : (0 : Int32) ≤ ((M55.1 26 0 38) + (1 : Int32)) ∧ ((M55.1 26 0 38) + (1 : Int32)) ≤ (12 : Int32) := by
          have c160 : (0 : Int32) ≤ (M55.1 26 0 38) ∧ (M55.1 26 0 38) ≤ (12 : Int32) := hM55.at1 26 0 38
          have c161 : (M55.1 26 0 38) = (M37.1 26 0 38) := by rw [eq_155]; exact up_k (by decide)
          have c162 : (0 : Int32) ≤ (M37.1 26 0 38) ∧ (M37.1 26 0 38) ≤ (12 : Int32) := hM37.at1 26 0 38
          have c163 : (M37.1 26 0 38) = (M8.1 26 0 38) := by rw [eq_1]; exact up_p (by decide)
          have c164 : (0 : Int32) ≤ (M8.1 26 0 38) ∧ (M8.1 26 0 38) ≤ (12 : Int32) := hM8.at1 26 0 38
          exact ⟨by grind, by grind⟩
        have hM59 : IV A B M59 := by rw [eq_158]; exact hM55.w1 rfl (a1) pf159
        have pf165 : FU (M59.1 26 0 40) 300 n := by
          have c166 : (0 : Int32) ≤ (M59.1 26 0 40) ∧ (M59.1 26 0 40) ≤ (300 : Int32) := hM59.at1 26 0 40
          have c167 : (M59.1 26 0 40) = (M55.1 26 0 40) := by rw [eq_158]; exact up_p (by decide)
          have c168 : (0 : Int32) ≤ (M8.1 26 0 40) ∧ (M8.1 26 0 40) ≤ (300 : Int32) := hM8.at1 26 0 40
          have c169 : (0 : Int32) ≤ (M55.1 26 0 40) ∧ (M55.1 26 0 40) ≤ (300 : Int32) := hM55.at1 26 0 40
          have c170 : (M55.1 26 0 40) = (M37.1 26 0 40) := by rw [eq_155]; exact up_k (by decide)
          have c171 : (0 : Int32) ≤ (M37.1 26 0 40) ∧ (M37.1 26 0 40) ≤ (300 : Int32) := hM37.at1 26 0 40
          have c172 : (M37.1 26 0 40) = ((M8.1 26 0 40) + (1 : Int32)) := by rw [eq_1]; exact up_s
          exact FU.stepe hF (by grind) (by grind)
        have pf173 : (0 : Int32) ≤ (v6 + (1 : Int32)) ∧ (v6 + (1 : Int32)) ≤ (24 : Int32) := by
          exact ⟨by grind, by grind⟩
        have pf174 : (0 : Int32) ≤ v58 ∧ v58 ≤ (4 : Int32) := by
          have c175 : (0 : Int32) ≤ (M8.1 34 0 (p1).toNatClampNeg) ∧ (M8.1 34 0 (p1).toNatClampNeg) ≤ (4 : Int32) := hM8.at1 34 0 ((p1).toNatClampNeg)
          have c176 : (0 : Int32) ≤ (M8.1 26 0 38) ∧ (M8.1 26 0 38) ≤ (12 : Int32) := hM8.at1 26 0 38
          have c177 : (0 : Int32) ≤ (M8.1 26 0 39) ∧ (M8.1 26 0 39) ≤ (6 : Int32) := hM8.at1 26 0 39
          exact ⟨by grind, by grind⟩
        have pf178 : v58 ≤ (M59.1 34 0 (p1).toNatClampNeg) := by
          have c179 : (0 : Int32) ≤ (M59.1 34 0 (p1).toNatClampNeg) ∧ (M59.1 34 0 (p1).toNatClampNeg) ≤ (4 : Int32) := hM59.at1 34 0 ((p1).toNatClampNeg)
          have c180 : (M59.1 34 0 (p1).toNatClampNeg) = (M55.1 34 0 (p1).toNatClampNeg) := by rw [eq_158]; exact up_k (by decide)
          have c181 : (0 : Int32) ≤ (M8.1 34 0 (p1).toNatClampNeg) ∧ (M8.1 34 0 (p1).toNatClampNeg) ≤ (4 : Int32) := hM8.at1 34 0 ((p1).toNatClampNeg)
          have c182 : (0 : Int32) ≤ (M8.1 26 0 38) ∧ (M8.1 26 0 38) ≤ (12 : Int32) := hM8.at1 26 0 38
          have c183 : (0 : Int32) ≤ (M8.1 26 0 39) ∧ (M8.1 26 0 39) ≤ (6 : Int32) := hM8.at1 26 0 39
          have c184 : (0 : Int32) ≤ (M55.1 34 0 (p1).toNatClampNeg) ∧ (M55.1 34 0 (p1).toNatClampNeg) ≤ (4 : Int32) := hM55.at1 34 0 ((p1).toNatClampNeg)
          have c185 : (M55.1 34 0 (p1).toNatClampNeg) = (M37.1 34 0 (p1).toNatClampNeg) := by rw [eq_155]; exact up_k (by decide)
          have c186 : (0 : Int32) ≤ (M37.1 34 0 (p1).toNatClampNeg) ∧ (M37.1 34 0 (p1).toNatClampNeg) ≤ (4 : Int32) := hM37.at1 34 0 ((p1).toNatClampNeg)
          have c187 : (M37.1 34 0 (p1).toNatClampNeg) = (M8.1 34 0 (p1).toNatClampNeg) := by rw [eq_1]; exact up_k (by decide)
          grind [isL]
        exact hrc (v6 + (1 : Int32)) v58 M59 k4 pf165 pf173 pf174 hM59 pf178 hk
      · unfold f_X7_runs_J271
        refine ok_lq (fun v58 eq_188 => ?_)
        refine ok_lq (fun M59 eq_189 => ?_)
        have pf190 : (0 : Int32) ≤ ((M55.1 26 0 38) + (1 : Int32)) ∧ ((M55.1 26 0 38) + (1 : Int32)) ≤ (12 : Int32) := by
          have c191 : (0 : Int32) ≤ (M55.1 26 0 38) ∧ (M55.1 26 0 38) ≤ (12 : Int32) := hM55.at1 26 0 38
          have c192 : (M55.1 26 0 38) = (M37.1 26 0 38) := by rw [eq_155]; exact up_k (by decide)
          have c193 : (0 : Int32) ≤ (M37.1 26 0 38) ∧ (M37.1 26 0 38) ≤ (12 : Int32) := hM37.at1 26 0 38
          have c194 : (M37.1 26 0 38) = (M8.1 26 0 38) := by rw [eq_1]; exact up_p (by decide)
          have c195 : (0 : Int32) ≤ (M8.1 26 0 38) ∧ (M8.1 26 0 38) ≤ (12 : Int32) := hM8.at1 26 0 38
          exact ⟨by grind, by grind⟩
        have hM59 : IV A B M59 := by rw [eq_189]; exact hM55.w1 rfl (a1) pf190
        have pf196 : FU (M59.1 26 0 40) 300 n := by
          have c197 : (0 : Int32) ≤ (M59.1 26 0 40) ∧ (M59.1 26 0 40) ≤ (300 : Int32) := hM59.at1 26 0 40
          have c198 : (M59.1 26 0 40) = (M55.1 26 0 40) := by rw [eq_189]; exact up_p (by decide)
          have c199 : (0 : Int32) ≤ (M8.1 26 0 40) ∧ (M8.1 26 0 40) ≤ (300 : Int32) := hM8.at1 26 0 40
          have c200 : (0 : Int32) ≤ (M55.1 26 0 40) ∧ (M55.1 26 0 40) ≤ (300 : Int32) := hM55.at1 26 0 40
          have c201 : (M55.1 26 0 40) = (M37.1 26 0 40) := by rw [eq_155]; exact up_k (by decide)
          have c202 : (0 : Int32) ≤ (M37.1 26 0 40) ∧ (M37.1 26 0 40) ≤ (300 : Int32) := hM37.at1 26 0 40
          have c203 : (M37.1 26 0 40) = ((M8.1 26 0 40) + (1 : Int32)) := by rw [eq_1]; exact up_s
          exact FU.stepe hF (by grind) (by grind)
        have pf204 : (0 : Int32) ≤ (v6 + (1 : Int32)) ∧ (v6 + (1 : Int32)) ≤ (24 : Int32) := by
          exact ⟨by grind, by grind⟩
        have pf205 : (0 : Int32) ≤ v58 ∧ v58 ≤ (4 : Int32) := by
          have c206 : (0 : Int32) ≤ (M8.1 34 0 (p1).toNatClampNeg) ∧ (M8.1 34 0 (p1).toNatClampNeg) ≤ (4 : Int32) := hM8.at1 34 0 ((p1).toNatClampNeg)
          have c207 : (0 : Int32) ≤ (M8.1 26 0 38) ∧ (M8.1 26 0 38) ≤ (12 : Int32) := hM8.at1 26 0 38
          have c208 : (0 : Int32) ≤ (M8.1 26 0 39) ∧ (M8.1 26 0 39) ≤ (6 : Int32) := hM8.at1 26 0 39
          exact ⟨by grind, by grind⟩
        have pf209 : v58 ≤ (M59.1 34 0 (p1).toNatClampNeg) := by
          have c210 : (0 : Int32) ≤ (M59.1 34 0 (p1).toNatClampNeg) ∧ (M59.1 34 0 (p1).toNatClampNeg) ≤ (4 : Int32) := hM59.at1 34 0 ((p1).toNatClampNeg)
          have c211 : (M59.1 34 0 (p1).toNatClampNeg) = (M55.1 34 0 (p1).toNatClampNeg) := by rw [eq_189]; exact up_k (by decide)
          have c212 : (0 : Int32) ≤ (M8.1 34 0 (p1).toNatClampNeg) ∧ (M8.1 34 0 (p1).toNatClampNeg) ≤ (4 : Int32) := hM8.at1 34 0 ((p1).toNatClampNeg)
          have c213 : (0 : Int32) ≤ (M8.1 26 0 38) ∧ (M8.1 26 0 38) ≤ (12 : Int32) := hM8.at1 26 0 38
          have c214 : (0 : Int32) ≤ (M8.1 26 0 39) ∧ (M8.1 26 0 39) ≤ (6 : Int32) := hM8.at1 26 0 39
          have c215 : (0 : Int32) ≤ (M55.1 34 0 (p1).toNatClampNeg) ∧ (M55.1 34 0 (p1).toNatClampNeg) ≤ (4 : Int32) := hM55.at1 34 0 ((p1).toNatClampNeg)
          have c216 : (M55.1 34 0 (p1).toNatClampNeg) = (M37.1 34 0 (p1).toNatClampNeg) := by rw [eq_155]; exact up_k (by decide)
          have c217 : (0 : Int32) ≤ (M37.1 34 0 (p1).toNatClampNeg) ∧ (M37.1 34 0 (p1).toNatClampNeg) ≤ (4 : Int32) := hM37.at1 34 0 ((p1).toNatClampNeg)
          have c218 : (M37.1 34 0 (p1).toNatClampNeg) = (M8.1 34 0 (p1).toNatClampNeg) := by rw [eq_1]; exact up_k (by decide)
          grind [isL]
        exact hrc (v6 + (1 : Int32)) v58 M59 k4 pf196 pf204 pf205 hM59 pf209 hk
    · refine ok_ite (fun q219 => ?_) (fun q219 => ?_)
      · refine ok_gd ?_ (fun g220 => ?_)
        · have c221 : (0 : Int32) ≤ (M37.1 26 0 38) ∧ (M37.1 26 0 38) ≤ (12 : Int32) := hM37.at1 26 0 38
          have c222 : (M37.1 26 0 38) = (M8.1 26 0 38) := by rw [eq_1]; exact up_p (by decide)
          have c223 : (0 : Int32) ≤ (M8.1 26 0 38) ∧ (M8.1 26 0 38) ≤ (12 : Int32) := hM8.at1 26 0 38
          exact vp_of (by decide) (by grind) (show ((M37.1 26 0 38) - (1 : Int32)) < (12 : Int32) by grind)
        have g220 := vp_to (by decide) g220
        have g220 : (0 : Int32) ≤ ((M37.1 26 0 38) - (1 : Int32)) ∧ ((M37.1 26 0 38) - (1 : Int32)) < (12 : Int32) := g220
        unfold f_X7_runs_J257
        refine ok_gd ?_ (fun g224 => ?_)
        · have c225 : (0 : Int32) ≤ (M37.1 26 0 38) ∧ (M37.1 26 0 38) ≤ (12 : Int32) := hM37.at1 26 0 38
          have c226 : (M37.1 26 0 38) = (M8.1 26 0 38) := by rw [eq_1]; exact up_p (by decide)
          have c227 : (0 : Int32) ≤ (M8.1 26 0 38) ∧ (M8.1 26 0 38) ≤ (12 : Int32) := hM8.at1 26 0 38
          exact vp_of (by decide) (by grind) (show (M37.1 26 0 38) < (12 : Int32) by grind)
        have g224 := vp_to (by decide) g224
        have g224 : (0 : Int32) ≤ (M37.1 26 0 38) ∧ (M37.1 26 0 38) < (12 : Int32) := g224
        refine ok_lq (fun M55 eq_228 => ?_)
        have hM55 : IV A B M55 := by rw [eq_228]; exact hM37.w1f rfl (a4 (((M37.1 26 0 38)).toNatClampNeg)) rfl
        refine ok_ite (fun q229 => ?_) (fun q229 => ?_)
        · unfold f_X7_runs_J271
          refine ok_lq (fun v58 eq_230 => ?_)
          refine ok_lq (fun M59 eq_231 => ?_)
          have pf232 : (0 : Int32) ≤ ((M55.1 26 0 38) + (1 : Int32)) ∧ ((M55.1 26 0 38) + (1 : Int32)) ≤ (12 : Int32) := by
            have c233 : (0 : Int32) ≤ (M55.1 26 0 38) ∧ (M55.1 26 0 38) ≤ (12 : Int32) := hM55.at1 26 0 38
            have c234 : (M55.1 26 0 38) = (M37.1 26 0 38) := by rw [eq_228]; exact up_k (by decide)
            have c235 : (0 : Int32) ≤ (M37.1 26 0 38) ∧ (M37.1 26 0 38) ≤ (12 : Int32) := hM37.at1 26 0 38
            have c236 : (M37.1 26 0 38) = (M8.1 26 0 38) := by rw [eq_1]; exact up_p (by decide)
            have c237 : (0 : Int32) ≤ (M8.1 26 0 38) ∧ (M8.1 26 0 38) ≤ (12 : Int32) := hM8.at1 26 0 38
            exact ⟨by grind, by grind⟩
          have hM59 : IV A B M59 := by rw [eq_231]; exact hM55.w1 rfl (a1) pf232
          have pf238 : FU (M59.1 26 0 40) 300 n := by
            have c239 : (0 : Int32) ≤ (M59.1 26 0 40) ∧ (M59.1 26 0 40) ≤ (300 : Int32) := hM59.at1 26 0 40
            have c240 : (M59.1 26 0 40) = (M55.1 26 0 40) := by rw [eq_231]; exact up_p (by decide)
            have c241 : (0 : Int32) ≤ (M8.1 26 0 40) ∧ (M8.1 26 0 40) ≤ (300 : Int32) := hM8.at1 26 0 40
            have c242 : (0 : Int32) ≤ (M55.1 26 0 40) ∧ (M55.1 26 0 40) ≤ (300 : Int32) := hM55.at1 26 0 40
            have c243 : (M55.1 26 0 40) = (M37.1 26 0 40) := by rw [eq_228]; exact up_k (by decide)
            have c244 : (0 : Int32) ≤ (M37.1 26 0 40) ∧ (M37.1 26 0 40) ≤ (300 : Int32) := hM37.at1 26 0 40
            have c245 : (M37.1 26 0 40) = ((M8.1 26 0 40) + (1 : Int32)) := by rw [eq_1]; exact up_s
            exact FU.stepe hF (by grind) (by grind)
          have pf246 : (0 : Int32) ≤ (v6 + (1 : Int32)) ∧ (v6 + (1 : Int32)) ≤ (24 : Int32) := by
            exact ⟨by grind, by grind⟩
          have pf247 : (0 : Int32) ≤ v58 ∧ v58 ≤ (4 : Int32) := by
            have c248 : (0 : Int32) ≤ (M8.1 34 0 (p1).toNatClampNeg) ∧ (M8.1 34 0 (p1).toNatClampNeg) ≤ (4 : Int32) := hM8.at1 34 0 ((p1).toNatClampNeg)
            have c249 : (0 : Int32) ≤ (M8.1 26 0 38) ∧ (M8.1 26 0 38) ≤ (12 : Int32) := hM8.at1 26 0 38
            have c250 : (0 : Int32) ≤ (M8.1 26 0 39) ∧ (M8.1 26 0 39) ≤ (6 : Int32) := hM8.at1 26 0 39
            exact ⟨by grind, by grind⟩
          have pf251 : v58 ≤ (M59.1 34 0 (p1).toNatClampNeg) := by
            have c252 : (0 : Int32) ≤ (M59.1 34 0 (p1).toNatClampNeg) ∧ (M59.1 34 0 (p1).toNatClampNeg) ≤ (4 : Int32) := hM59.at1 34 0 ((p1).toNatClampNeg)
            have c253 : (M59.1 34 0 (p1).toNatClampNeg) = (M55.1 34 0 (p1).toNatClampNeg) := by rw [eq_231]; exact up_k (by decide)
            have c254 : (0 : Int32) ≤ (M8.1 34 0 (p1).toNatClampNeg) ∧ (M8.1 34 0 (p1).toNatClampNeg) ≤ (4 : Int32) := hM8.at1 34 0 ((p1).toNatClampNeg)
            have c255 : (0 : Int32) ≤ (M8.1 26 0 38) ∧ (M8.1 26 0 38) ≤ (12 : Int32) := hM8.at1 26 0 38
            have c256 : (0 : Int32) ≤ (M8.1 26 0 39) ∧ (M8.1 26 0 39) ≤ (6 : Int32) := hM8.at1 26 0 39
            have c257 : (0 : Int32) ≤ (M55.1 34 0 (p1).toNatClampNeg) ∧ (M55.1 34 0 (p1).toNatClampNeg) ≤ (4 : Int32) := hM55.at1 34 0 ((p1).toNatClampNeg)
            have c258 : (M55.1 34 0 (p1).toNatClampNeg) = (M37.1 34 0 (p1).toNatClampNeg) := by rw [eq_228]; exact up_k (by decide)
            have c259 : (0 : Int32) ≤ (M37.1 34 0 (p1).toNatClampNeg) ∧ (M37.1 34 0 (p1).toNatClampNeg) ≤ (4 : Int32) := hM37.at1 34 0 ((p1).toNatClampNeg)
            have c260 : (M37.1 34 0 (p1).toNatClampNeg) = (M8.1 34 0 (p1).toNatClampNeg) := by rw [eq_1]; exact up_k (by decide)
            grind [isL]
          exact hrc (v6 + (1 : Int32)) v58 M59 k4 pf238 pf246 pf247 hM59 pf251 hk
        · unfold f_X7_runs_J271
          refine ok_lq (fun v58 eq_261 => ?_)
          refine ok_lq (fun M59 eq_262 => ?_)
          have pf263 : (0 : Int32) ≤ ((M55.1 26 0 38) + (1 : Int32)) ∧ ((M55.1 26 0 38) + (1 : Int32)) ≤ (12 : Int32) := by
            have c264 : (0 : Int32) ≤ (M55.1 26 0 38) ∧ (M55.1 26 0 38) ≤ (12 : Int32) := hM55.at1 26 0 38
            have c265 : (M55.1 26 0 38) = (M37.1 26 0 38) := by rw [eq_228]; exact up_k (by decide)
            have c266 : (0 : Int32) ≤ (M37.1 26 0 38) ∧ (M37.1 26 0 38) ≤ (12 : Int32) := hM37.at1 26 0 38
            have c267 : (M37.1 26 0 38) = (M8.1 26 0 38) := by rw [eq_1]; exact up_p (by decide)
            have c268 : (0 : Int32) ≤ (M8.1 26 0 38) ∧ (M8.1 26 0 38) ≤ (12 : Int32) := hM8.at1 26 0 38
            exact ⟨by grind, by grind⟩
          have hM59 : IV A B M59 := by rw [eq_262]; exact hM55.w1 rfl (a1) pf263
          have pf269 : FU (M59.1 26 0 40) 300 n := by
            have c270 : (0 : Int32) ≤ (M59.1 26 0 40) ∧ (M59.1 26 0 40) ≤ (300 : Int32) := hM59.at1 26 0 40
            have c271 : (M59.1 26 0 40) = (M55.1 26 0 40) := by rw [eq_262]; exact up_p (by decide)
            have c272 : (0 : Int32) ≤ (M8.1 26 0 40) ∧ (M8.1 26 0 40) ≤ (300 : Int32) := hM8.at1 26 0 40
            have c273 : (0 : Int32) ≤ (M55.1 26 0 40) ∧ (M55.1 26 0 40) ≤ (300 : Int32) := hM55.at1 26 0 40
            have c274 : (M55.1 26 0 40) = (M37.1 26 0 40) := by rw [eq_228]; exact up_k (by decide)
            have c275 : (0 : Int32) ≤ (M37.1 26 0 40) ∧ (M37.1 26 0 40) ≤ (300 : Int32) := hM37.at1 26 0 40
            have c276 : (M37.1 26 0 40) = ((M8.1 26 0 40) + (1 : Int32)) := by rw [eq_1]; exact up_s
            exact FU.stepe hF (by grind) (by grind)
          have pf277 : (0 : Int32) ≤ (v6 + (1 : Int32)) ∧ (v6 + (1 : Int32)) ≤ (24 : Int32) := by
            exact ⟨by grind, by grind⟩
          have pf278 : (0 : Int32) ≤ v58 ∧ v58 ≤ (4 : Int32) := by
            have c279 : (0 : Int32) ≤ (M8.1 34 0 (p1).toNatClampNeg) ∧ (M8.1 34 0 (p1).toNatClampNeg) ≤ (4 : Int32) := hM8.at1 34 0 ((p1).toNatClampNeg)
            have c280 : (0 : Int32) ≤ (M8.1 26 0 38) ∧ (M8.1 26 0 38) ≤ (12 : Int32) := hM8.at1 26 0 38
            have c281 : (0 : Int32) ≤ (M8.1 26 0 39) ∧ (M8.1 26 0 39) ≤ (6 : Int32) := hM8.at1 26 0 39
            exact ⟨by grind, by grind⟩
          have pf282 : v58 ≤ (M59.1 34 0 (p1).toNatClampNeg) := by
            have c283 : (0 : Int32) ≤ (M59.1 34 0 (p1).toNatClampNeg) ∧ (M59.1 34 0 (p1).toNatClampNeg) ≤ (4 : Int32) := hM59.at1 34 0 ((p1).toNatClampNeg)
            have c284 : (M59.1 34 0 (p1).toNatClampNeg) = (M55.1 34 0 (p1).toNatClampNeg) := by rw [eq_262]; exact up_k (by decide)
            have c285 : (0 : Int32) ≤ (M8.1 34 0 (p1).toNatClampNeg) ∧ (M8.1 34 0 (p1).toNatClampNeg) ≤ (4 : Int32) := hM8.at1 34 0 ((p1).toNatClampNeg)
            have c286 : (0 : Int32) ≤ (M8.1 26 0 38) ∧ (M8.1 26 0 38) ≤ (12 : Int32) := hM8.at1 26 0 38
            have c287 : (0 : Int32) ≤ (M8.1 26 0 39) ∧ (M8.1 26 0 39) ≤ (6 : Int32) := hM8.at1 26 0 39
            have c288 : (0 : Int32) ≤ (M55.1 34 0 (p1).toNatClampNeg) ∧ (M55.1 34 0 (p1).toNatClampNeg) ≤ (4 : Int32) := hM55.at1 34 0 ((p1).toNatClampNeg)
            have c289 : (M55.1 34 0 (p1).toNatClampNeg) = (M37.1 34 0 (p1).toNatClampNeg) := by rw [eq_228]; exact up_k (by decide)
            have c290 : (0 : Int32) ≤ (M37.1 34 0 (p1).toNatClampNeg) ∧ (M37.1 34 0 (p1).toNatClampNeg) ≤ (4 : Int32) := hM37.at1 34 0 ((p1).toNatClampNeg)
            have c291 : (M37.1 34 0 (p1).toNatClampNeg) = (M8.1 34 0 (p1).toNatClampNeg) := by rw [eq_1]; exact up_k (by decide)
            grind [isL]
          exact hrc (v6 + (1 : Int32)) v58 M59 k4 pf269 pf277 pf278 hM59 pf282 hk
      · refine ok_gd ?_ (fun g292 => ?_)
        · have c293 : (0 : Int32) ≤ (M8.1 34 0 (p1).toNatClampNeg) ∧ (M8.1 34 0 (p1).toNatClampNeg) ≤ (4 : Int32) := hM8.at1 34 0 ((p1).toNatClampNeg)
          have c294 : (0 : Int32) ≤ (M8.1 26 0 38) ∧ (M8.1 26 0 38) ≤ (12 : Int32) := hM8.at1 26 0 38
          have c295 : (0 : Int32) ≤ (M8.1 26 0 39) ∧ (M8.1 26 0 39) ≤ (6 : Int32) := hM8.at1 26 0 39
          exact vp_of (by decide) (by grind) (show (((4 : Int32) * p1) + v7) < (160 : Int32) by grind)
        have g292 := vp_to (by decide) g292
        have g292 : (0 : Int32) ≤ (((4 : Int32) * p1) + v7) ∧ (((4 : Int32) * p1) + v7) < (160 : Int32) := g292
        unfold f_X7_runs_J257
        refine ok_gd ?_ (fun g296 => ?_)
        · have c297 : (0 : Int32) ≤ (M37.1 26 0 38) ∧ (M37.1 26 0 38) ≤ (12 : Int32) := hM37.at1 26 0 38
          have c298 : (M37.1 26 0 38) = (M8.1 26 0 38) := by rw [eq_1]; exact up_p (by decide)
          have c299 : (0 : Int32) ≤ (M8.1 26 0 38) ∧ (M8.1 26 0 38) ≤ (12 : Int32) := hM8.at1 26 0 38
          exact vp_of (by decide) (by grind) (show (M37.1 26 0 38) < (12 : Int32) by grind)
        have g296 := vp_to (by decide) g296
        have g296 : (0 : Int32) ≤ (M37.1 26 0 38) ∧ (M37.1 26 0 38) < (12 : Int32) := g296
        refine ok_lq (fun M55 eq_300 => ?_)
        have hM55 : IV A B M55 := by rw [eq_300]; exact hM37.w1f rfl (a4 (((M37.1 26 0 38)).toNatClampNeg)) rfl
        refine ok_ite (fun q301 => ?_) (fun q301 => ?_)
        · unfold f_X7_runs_J271
          refine ok_lq (fun v58 eq_302 => ?_)
          refine ok_lq (fun M59 eq_303 => ?_)
          have pf304 : (0 : Int32) ≤ ((M55.1 26 0 38) + (1 : Int32)) ∧ ((M55.1 26 0 38) + (1 : Int32)) ≤ (12 : Int32) := by
            have c305 : (0 : Int32) ≤ (M55.1 26 0 38) ∧ (M55.1 26 0 38) ≤ (12 : Int32) := hM55.at1 26 0 38
            have c306 : (M55.1 26 0 38) = (M37.1 26 0 38) := by rw [eq_300]; exact up_k (by decide)
            have c307 : (0 : Int32) ≤ (M37.1 26 0 38) ∧ (M37.1 26 0 38) ≤ (12 : Int32) := hM37.at1 26 0 38
            have c308 : (M37.1 26 0 38) = (M8.1 26 0 38) := by rw [eq_1]; exact up_p (by decide)
            have c309 : (0 : Int32) ≤ (M8.1 26 0 38) ∧ (M8.1 26 0 38) ≤ (12 : Int32) := hM8.at1 26 0 38
            exact ⟨by grind, by grind⟩
          have hM59 : IV A B M59 := by rw [eq_303]; exact hM55.w1 rfl (a1) pf304
          have pf310 : FU (M59.1 26 0 40) 300 n := by
            have c311 : (0 : Int32) ≤ (M59.1 26 0 40) ∧ (M59.1 26 0 40) ≤ (300 : Int32) := hM59.at1 26 0 40
            have c312 : (M59.1 26 0 40) = (M55.1 26 0 40) := by rw [eq_303]; exact up_p (by decide)
            have c313 : (0 : Int32) ≤ (M8.1 26 0 40) ∧ (M8.1 26 0 40) ≤ (300 : Int32) := hM8.at1 26 0 40
            have c314 : (0 : Int32) ≤ (M55.1 26 0 40) ∧ (M55.1 26 0 40) ≤ (300 : Int32) := hM55.at1 26 0 40
            have c315 : (M55.1 26 0 40) = (M37.1 26 0 40) := by rw [eq_300]; exact up_k (by decide)
            have c316 : (0 : Int32) ≤ (M37.1 26 0 40) ∧ (M37.1 26 0 40) ≤ (300 : Int32) := hM37.at1 26 0 40
            have c317 : (M37.1 26 0 40) = ((M8.1 26 0 40) + (1 : Int32)) := by rw [eq_1]; exact up_s
            exact FU.stepe hF (by grind) (by grind)
          have pf318 : (0 : Int32) ≤ (v6 + (1 : Int32)) ∧ (v6 + (1 : Int32)) ≤ (24 : Int32) := by
            exact ⟨by grind, by grind⟩
          have pf319 : (0 : Int32) ≤ v58 ∧ v58 ≤ (4 : Int32) := by
            have c320 : (0 : Int32) ≤ (M8.1 34 0 (p1).toNatClampNeg) ∧ (M8.1 34 0 (p1).toNatClampNeg) ≤ (4 : Int32) := hM8.at1 34 0 ((p1).toNatClampNeg)
            have c321 : (0 : Int32) ≤ (M8.1 26 0 38) ∧ (M8.1 26 0 38) ≤ (12 : Int32) := hM8.at1 26 0 38
            have c322 : (0 : Int32) ≤ (M8.1 26 0 39) ∧ (M8.1 26 0 39) ≤ (6 : Int32) := hM8.at1 26 0 39
            exact ⟨by grind, by grind⟩
          have pf323 : v58 ≤ (M59.1 34 0 (p1).toNatClampNeg) := by
            have c324 : (0 : Int32) ≤ (M59.1 34 0 (p1).toNatClampNeg) ∧ (M59.1 34 0 (p1).toNatClampNeg) ≤ (4 : Int32) := hM59.at1 34 0 ((p1).toNatClampNeg)
            have c325 : (M59.1 34 0 (p1).toNatClampNeg) = (M55.1 34 0 (p1).toNatClampNeg) := by rw [eq_303]; exact up_k (by decide)
            have c326 : (0 : Int32) ≤ (M8.1 34 0 (p1).toNatClampNeg) ∧ (M8.1 34 0 (p1).toNatClampNeg) ≤ (4 : Int32) := hM8.at1 34 0 ((p1).toNatClampNeg)
            have c327 : (0 : Int32) ≤ (M8.1 26 0 38) ∧ (M8.1 26 0 38) ≤ (12 : Int32) := hM8.at1 26 0 38
            have c328 : (0 : Int32) ≤ (M8.1 26 0 39) ∧ (M8.1 26 0 39) ≤ (6 : Int32) := hM8.at1 26 0 39
            have c329 : (0 : Int32) ≤ (M55.1 34 0 (p1).toNatClampNeg) ∧ (M55.1 34 0 (p1).toNatClampNeg) ≤ (4 : Int32) := hM55.at1 34 0 ((p1).toNatClampNeg)
            have c330 : (M55.1 34 0 (p1).toNatClampNeg) = (M37.1 34 0 (p1).toNatClampNeg) := by rw [eq_300]; exact up_k (by decide)
            have c331 : (0 : Int32) ≤ (M37.1 34 0 (p1).toNatClampNeg) ∧ (M37.1 34 0 (p1).toNatClampNeg) ≤ (4 : Int32) := hM37.at1 34 0 ((p1).toNatClampNeg)
            have c332 : (M37.1 34 0 (p1).toNatClampNeg) = (M8.1 34 0 (p1).toNatClampNeg) := by rw [eq_1]; exact up_k (by decide)
            grind [isL]
          exact hrc (v6 + (1 : Int32)) v58 M59 k4 pf310 pf318 pf319 hM59 pf323 hk
        · unfold f_X7_runs_J271
          refine ok_lq (fun v58 eq_333 => ?_)
          refine ok_lq (fun M59 eq_334 => ?_)
          have pf335 : (0 : Int32) ≤ ((M55.1 26 0 38) + (1 : Int32)) ∧ ((M55.1 26 0 38) + (1 : Int32)) ≤ (12 : Int32) := by
            have c336 : (0 : Int32) ≤ (M55.1 26 0 38) ∧ (M55.1 26 0 38) ≤ (12 : Int32) := hM55.at1 26 0 38
            have c337 : (M55.1 26 0 38) = (M37.1 26 0 38) := by rw [eq_300]; exact up_k (by decide)
            have c338 : (0 : Int32) ≤ (M37.1 26 0 38) ∧ (M37.1 26 0 38) ≤ (12 : Int32) := hM37.at1 26 0 38
            have c339 : (M37.1 26 0 38) = (M8.1 26 0 38) := by rw [eq_1]; exact up_p (by decide)
            have c340 : (0 : Int32) ≤ (M8.1 26 0 38) ∧ (M8.1 26 0 38) ≤ (12 : Int32) := hM8.at1 26 0 38
            exact ⟨by grind, by grind⟩
          have hM59 : IV A B M59 := by rw [eq_334]; exact hM55.w1 rfl (a1) pf335
          have pf341 : FU (M59.1 26 0 40) 300 n := by
            have c342 : (0 : Int32) ≤ (M59.1 26 0 40) ∧ (M59.1 26 0 40) ≤ (300 : Int32) := hM59.at1 26 0 40
            have c343 : (M59.1 26 0 40) = (M55.1 26 0 40) := by rw [eq_334]; exact up_p (by decide)
            have c344 : (0 : Int32) ≤ (M8.1 26 0 40) ∧ (M8.1 26 0 40) ≤ (300 : Int32) := hM8.at1 26 0 40
            have c345 : (0 : Int32) ≤ (M55.1 26 0 40) ∧ (M55.1 26 0 40) ≤ (300 : Int32) := hM55.at1 26 0 40
            have c346 : (M55.1 26 0 40) = (M37.1 26 0 40) := by rw [eq_300]; exact up_k (by decide)
            have c347 : (0 : Int32) ≤ (M37.1 26 0 40) ∧ (M37.1 26 0 40) ≤ (300 : Int32) := hM37.at1 26 0 40
            have c348 : (M37.1 26 0 40) = ((M8.1 26 0 40) + (1 : Int32)) := by rw [eq_1]; exact up_s
            exact FU.stepe hF (by grind) (by grind)
          have pf349 : (0 : Int32) ≤ (v6 + (1 : Int32)) ∧ (v6 + (1 : Int32)) ≤ (24 : Int32) := by
            exact ⟨by grind, by grind⟩
          have pf350 : (0 : Int32) ≤ v58 ∧ v58 ≤ (4 : Int32) := by
            have c351 : (0 : Int32) ≤ (M8.1 34 0 (p1).toNatClampNeg) ∧ (M8.1 34 0 (p1).toNatClampNeg) ≤ (4 : Int32) := hM8.at1 34 0 ((p1).toNatClampNeg)
            have c352 : (0 : Int32) ≤ (M8.1 26 0 38) ∧ (M8.1 26 0 38) ≤ (12 : Int32) := hM8.at1 26 0 38
            have c353 : (0 : Int32) ≤ (M8.1 26 0 39) ∧ (M8.1 26 0 39) ≤ (6 : Int32) := hM8.at1 26 0 39
            exact ⟨by grind, by grind⟩
          have pf354 : v58 ≤ (M59.1 34 0 (p1).toNatClampNeg) := by
            have c355 : (0 : Int32) ≤ (M59.1 34 0 (p1).toNatClampNeg) ∧ (M59.1 34 0 (p1).toNatClampNeg) ≤ (4 : Int32) := hM59.at1 34 0 ((p1).toNatClampNeg)
            have c356 : (M59.1 34 0 (p1).toNatClampNeg) = (M55.1 34 0 (p1).toNatClampNeg) := by rw [eq_334]; exact up_k (by decide)
            have c357 : (0 : Int32) ≤ (M8.1 34 0 (p1).toNatClampNeg) ∧ (M8.1 34 0 (p1).toNatClampNeg) ≤ (4 : Int32) := hM8.at1 34 0 ((p1).toNatClampNeg)
            have c358 : (0 : Int32) ≤ (M8.1 26 0 38) ∧ (M8.1 26 0 38) ≤ (12 : Int32) := hM8.at1 26 0 38
            have c359 : (0 : Int32) ≤ (M8.1 26 0 39) ∧ (M8.1 26 0 39) ≤ (6 : Int32) := hM8.at1 26 0 39
            have c360 : (0 : Int32) ≤ (M55.1 34 0 (p1).toNatClampNeg) ∧ (M55.1 34 0 (p1).toNatClampNeg) ≤ (4 : Int32) := hM55.at1 34 0 ((p1).toNatClampNeg)
            have c361 : (M55.1 34 0 (p1).toNatClampNeg) = (M37.1 34 0 (p1).toNatClampNeg) := by rw [eq_300]; exact up_k (by decide)
            have c362 : (0 : Int32) ≤ (M37.1 34 0 (p1).toNatClampNeg) ∧ (M37.1 34 0 (p1).toNatClampNeg) ≤ (4 : Int32) := hM37.at1 34 0 ((p1).toNatClampNeg)
            have c363 : (M37.1 34 0 (p1).toNatClampNeg) = (M8.1 34 0 (p1).toNatClampNeg) := by rw [eq_1]; exact up_k (by decide)
            grind [isL]
          exact hrc (v6 + (1 : Int32)) v58 M59 k4 pf341 pf349 pf350 hM59 pf354 hk