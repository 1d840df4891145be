theorem s_X6_workAt {A : Nat → Nat → Nat → Prop} {B : SS} (X : SS) (hX : IV A B X) (p0 : Int32) : ok (f_X6_workAt X p0) (fun r => se (fun v => ((0 : Int32) ≤ p0 ∧ p0 < (X.1 0 0 11))) (fun E => E = "java/lang/IndexOutOfBoundsException") r) := by
  unfold f_X6_workAt
  refine ok_ite (fun q1 => ?_) (fun q1 => ?_)
  · have pf2 : "java/lang/IndexOutOfBoundsException" = "java/lang/IndexOutOfBoundsException" := by simp
    exact ok_some pf2
  · refine ok_ite (fun q3 => ?_) (fun q3 => ?_)
    · refine ok_gd ?_ (fun g4 => ?_)
      · have c5 : (0 : Int32) ≤ (X.1 0 0 11) ∧ (X.1 0 0 11) ≤ (40 : Int32) := hX.at1 0 0 11
        exact vp_of (by decide) (by grind) (show p0 < (40 : Int32) by grind)
      have g4 := vp_to (by decide) g4
      have g4 : (0 : Int32) ≤ p0 ∧ p0 < (40 : Int32) := g4
      have pf6 : ((0 : Int32) ≤ p0 ∧ p0 < (X.1 0 0 11)) := by
        have c7 : (0 : Int32) ≤ (X.1 0 0 11) ∧ (X.1 0 0 11) ≤ (40 : Int32) := hX.at1 0 0 11
        grind
      exact ok_some pf6
    · have pf8 : "java/lang/IndexOutOfBoundsException" = "java/lang/IndexOutOfBoundsException" := by simp
      exact ok_some pf8
theorem s_X6_of {A : Nat → Nat → Nat → Prop} {B : SS} (X : SS) (hX : IV A B X) (p0 : Int32) (p1 : Int32) : ok (f_X6_of X p0 p1) (fun r => se (fun v => True) (fun E => E = "java/lang/IllegalArgumentException" ∨ E = "java/lang/IndexOutOfBoundsException") r) := by
  unfold f_X6_of
  refine ok_e0 (s_X6_workAt X hX p0) (fun i1 w1 => ?_) (fun E4 w1 => ?_)
  · have w2 : ((0 : Int32) ≤ p0 ∧ p0 < (X.1 0 0 11)) := w1
    refine ok_ite (fun q3 => ?_) (fun q3 => ?_)
    · exact ok_some trivial
    · refine ok_ite (fun q4 => ?_) (fun q4 => ?_)
      · exact ok_some trivial
      · refine ok_ite (fun q5 => ?_) (fun q5 => ?_)
        · exact ok_some trivial
        · refine ok_ite (fun q6 => ?_) (fun q6 => ?_)
          · exact ok_some trivial
          · refine ok_ite (fun q7 => ?_) (fun q7 => ?_)
            · exact ok_some trivial
            · have pf8 : "java/lang/IllegalArgumentException" = "java/lang/IllegalArgumentException" ∨ "java/lang/IllegalArgumentException" = "java/lang/IndexOutOfBoundsException" := by simp
              exact ok_some pf8
  · have w9 : E4 = "java/lang/IndexOutOfBoundsException" := w1
    have pf10 : E4 = "java/lang/IllegalArgumentException" ∨ E4 = "java/lang/IndexOutOfBoundsException" := by grind
    exact ok_some pf10
theorem s_X6_state {A : Nat → Nat → Nat → Prop} {B : SS} (X : SS) (hX : IV A B X) (p0 : Int32) : ok (f_X6_state X p0) (fun r => se (fun v => (0 : Int32) ≤ v ∧ v ≤ (65535 : Int32)) (fun E => E = "java/lang/IndexOutOfBoundsException") r) := by
  unfold f_X6_state
  refine ok_e0 (s_X6_workAt X hX p0) (fun i1 w1 => ?_) (fun E4 w1 => ?_)
  · have w2 : ((0 : Int32) ≤ p0 ∧ p0 < (X.1 0 0 11)) := w1
    refine ok_gd ?_ (fun g3 => ?_)
    · have c4 : (0 : Int32) ≤ (X.1 12 i1 11) ∧ (X.1 12 i1 11) ≤ (65535 : Int32) := hX.at1 12 i1 11
      exact okc_of (by grind) (by grind)
    have pf5 : (0 : Int32) ≤ (X.1 12 i1 11) ∧ (X.1 12 i1 11) ≤ (65535 : Int32) := by
      have c6 : (0 : Int32) ≤ (X.1 12 i1 11) ∧ (X.1 12 i1 11) ≤ (65535 : Int32) := hX.at1 12 i1 11
      exact ⟨by grind, by grind⟩
    exact ok_some pf5
  · have w7 : E4 = "java/lang/IndexOutOfBoundsException" := w1
    have pf8 : E4 = "java/lang/IndexOutOfBoundsException" := by grind
    exact ok_some pf8
theorem s_X6_sum {A : Nat → Nat → Nat → Prop} {B : SS} (X : SS) (hX : IV A B X) (p0 : Int32) : ok (f_X6_sum X p0) (fun r => se (fun v => True) (fun E => E = "java/lang/IndexOutOfBoundsException") r) := by
  unfold f_X6_sum
  refine ok_e0 (s_X6_workAt X hX p0) (fun i1 w1 => ?_) (fun E4 w1 => ?_)
  · have w2 : ((0 : Int32) ≤ p0 ∧ p0 < (X.1 0 0 11)) := w1
    exact ok_some trivial
  · have w3 : E4 = "java/lang/IndexOutOfBoundsException" := w1
    have pf4 : E4 = "java/lang/IndexOutOfBoundsException" := by grind
    exact ok_some pf4
theorem s_X6_stepsDoneBy {A : Nat → Nat → Nat → Prop} {B : SS} (X : SS) (hX : IV A B X) (i1 : Nat) (i2 : Nat) (a1 : A 16 1 4) (a2 : A 16 1 5) (a3 : A 16 1 6) (a4 : A 16 1 7) (a5 : A 16 1 8) (a6 : ∀ p, A 17 1 p) (a7 : ∀ p, A 18 1 p) (a8 : ∀ p, A 19 1 p) (a9 : ∀ p, A 20 1 p) : ok (f_X6_stepsDoneBy X i1 i2) (fun r => IV A B r.1 ∧ True) := by
  unfold f_X6_stepsDoneBy
  refine ok_b1 (s_X1_execute X hX 1 i1 i2 (a1) (a2) (a3) (a4) (a5) (fun p => a6 p) (fun p => a7 p) (fun p => a8 p) (fun p => a9 p)) (fun X2 v1 w1 => ?_)
  have hX2 : IV A B X2 := w1.1
  have w2 : (33 : Int32) ≤ v1 ∧ v1 ≤ (122 : Int32) := w1.2
  exact ok_some ⟨hX2, trivial⟩
theorem s_X6_stepsTold {A : Nat → Nat → Nat → Prop} {B : SS} (X : SS) (hX : IV A B X) (i1 : Nat) (p1 : Int32) (ip1 : (0 : Int32) ≤ p1 ∧ p1 ≤ (4 : Int32)) (a1 : A 16 1 4) (a2 : A 16 1 5) (a3 : A 16 1 6) (a4 : A 16 1 7) (a5 : A 16 1 8) (a6 : ∀ p, A 17 1 p) (a7 : ∀ p, A 18 1 p) (a8 : ∀ p, A 19 1 p) (a9 : ∀ p, A 20 1 p) : ok (f_X6_stepsTold X i1 p1) (fun r => IV A B r.1 ∧ True) := by
  unfold f_X6_stepsTold
  refine ok_ite (fun q1 => ?_) (fun q1 => ?_)
  · refine ok_ite (fun q2 => ?_) (fun q2 => ?_)
    · exact ok_some ⟨hX, trivial⟩
    · refine ok_gd ?_ (fun g3 => ?_)
      · have c4 : (0 : Int32) ≤ (X.1 12 i1 13) ∧ (X.1 12 i1 13) ≤ (5 : Int32) := hX.at1 12 i1 13
        have c5 : (0 : Int32) ≤ (X.1 12 i1 12) ∧ (X.1 12 i1 12) ≤ (1 : Int32) := hX.at1 12 i1 12
        exact vp_of (by decide) (by grind) (show p1 < (5 : Int32) by grind)
      have g3 := vp_to (by decide) g3
      have g3 : (0 : Int32) ≤ p1 ∧ p1 < (5 : Int32) := g3
      exact ok_some ⟨hX, trivial⟩
  · refine ok_gd ?_ (fun g6 => ?_)
    · have c7 : (0 : Int32) ≤ (X.1 12 i1 8) ∧ (X.1 12 i1 8) ≤ (7 : Int32) := hX.at1 12 i1 8
      have c8 : (0 : Int32) ≤ (X.1 12 i1 12) ∧ (X.1 12 i1 12) ≤ (1 : Int32) := hX.at1 12 i1 12
      exact vp_of (by decide) (by grind) (show (X.1 12 i1 8) < (8 : Int32) by grind)
    have g6 := vp_to (by decide) g6
    have g6 : (0 : Int32) ≤ (X.1 12 i1 8) ∧ (X.1 12 i1 8) < (8 : Int32) := g6
    refine ok_gd ?_ (fun g9 => ?_)
    · exact vp_of (by decide) (by grind) (show p1 < (5 : Int32) by grind)
    have g9 := vp_to (by decide) g9
    have g9 : (0 : Int32) ≤ p1 ∧ p1 < (5 : Int32) := g9
    refine ok_b1 (s_X6_stepsDoneBy X hX (i1 + 1) (5 * ((X.1 12 i1 8)).toNatClampNeg + (p1).toNatClampNeg) (a1) (a2) (a3) (a4) (a5) (fun p => a6 p) (fun p => a7 p) (fun p => a8 p) (fun p => a9 p)) (fun X7 v6 w10 => ?_)
    have hX7 : IV A B X7 := w10.1
    exact ok_some ⟨hX7, trivial⟩
theorem s_X6_steps {A : Nat → Nat → Nat → Prop} {B : SS} (X : SS) (hX : IV A B X) (p0 : Int32) (p1 : Int32) (a1 : A 16 1 4) (a2 : A 16 1 5) (a3 : A 16 1 6) (a4 : A 16 1 7) (a5 : A 16 1 8) (a6 : ∀ p, A 17 1 p) (a7 : ∀ p, A 18 1 p) (a8 : ∀ p, A 19 1 p) (a9 : ∀ p, A 20 1 p) : ok (f_X6_steps X p0 p1) (fun r => IV A B r.1 ∧ se (fun v => True) (fun E => E = "java/lang/IndexOutOfBoundsException" ∨ E = "java/util/NoSuchElementException") r.2) := by
  unfold f_X6_steps
  refine ok_e0 (s_X6_workAt X hX p0) (fun i1 w1 => ?_) (fun E4 w1 => ?_)
  · have w2 : ((0 : Int32) ≤ p0 ∧ p0 < (X.1 0 0 11)) := w1
    refine ok_gd ?_ (fun g3 => ?_)
    · have c4 : (0 : Int32) ≤ (X.1 12 i1 8) ∧ (X.1 12 i1 8) ≤ (7 : Int32) := hX.at1 12 i1 8
      exact vp_of (by decide) (by grind) (show (X.1 12 i1 8) < (8 : Int32) by grind)
    have g3 := vp_to (by decide) g3
    have g3 : (0 : Int32) ≤ (X.1 12 i1 8) ∧ (X.1 12 i1 8) < (8 : Int32) := g3
    refine ok_e0 (s_X6_testAt X hX ((X.1 12 i1 8)).toNatClampNeg p1) (fun i8 w5 => ?_) (fun E11 w5 => ?_)
    · have w6 : ((0 : Int32) ≤ p1 ∧ p1 < (X.1 7 ((X.1 12 i1 8)).toNatClampNeg 1)) := w5
      have pf7 : (0 : Int32) ≤ p1 ∧ p1 ≤ (4 : Int32) := by
        have c8 : (0 : Int32) ≤ (X.1 7 ((X.1 12 i1 8)).toNatClampNeg 1) ∧ (X.1 7 ((X.1 12 i1 8)).toNatClampNeg 1) ≤ (5 : Int32) := hX.at1 7 (((X.1 12 i1 8)).toNatClampNeg) 1
        have c9 : (0 : Int32) ≤ (X.1 12 i1 8) ∧ (X.1 12 i1 8) ≤ (7 : Int32) := hX.at1 12 i1 8
        exact ⟨by grind, by grind⟩
      refine ok_b1 (s_X6_stepsTold X hX i1 p1 pf7 (a1) (a2) (a3) (a4) (a5) (fun p => a6 p) (fun p => a7 p) (fun p => a8 p) (fun p => a9 p)) (fun X15 v14 w10 => ?_)
      have hX15 : IV A B X15 := w10.1
      refine ok_ite (fun q11 => ?_) (fun q11 => ?_)
      · have pf12 : "java/util/NoSuchElementException" = "java/lang/IndexOutOfBoundsException" ∨ "java/util/NoSuchElementException" = "java/util/NoSuchElementException" := by simp
        exact ok_some ⟨hX15, pf12⟩
      · exact ok_some ⟨hX15, trivial⟩
    · have w13 : E11 = "java/lang/IndexOutOfBoundsException" := w5
      have pf14 : E11 = "java/lang/IndexOutOfBoundsException" ∨ E11 = "java/util/NoSuchElementException" := by grind
      exact ok_some ⟨hX, pf14⟩
  · have w15 : E4 = "java/lang/IndexOutOfBoundsException" := w1
    have pf16 : E4 = "java/lang/IndexOutOfBoundsException" ∨ E4 = "java/util/NoSuchElementException" := by grind
    exact ok_some ⟨hX, pf16⟩
theorem s_X6_hasBody {A : Nat → Nat → Nat → Prop} {B : SS} (X : SS) (hX : IV A B X) (p0 : Int32) : ok (f_X6_hasBody X p0) (fun r => se (fun v => (0 : Int32) ≤ v ∧ v ≤ (1 : Int32)) (fun E => E = "java/lang/IndexOutOfBoundsException") r) := by
  unfold f_X6_hasBody
  refine ok_e0 (s_X6_workAt X hX p0) (fun i1 w1 => ?_) (fun E4 w1 => ?_)
  · have w2 : ((0 : Int32) ≤ p0 ∧ p0 < (X.1 0 0 11)) := w1
    refine ok_gd ?_ (fun g3 => ?_)
    · have c4 : (0 : Int32) ≤ (X.1 12 i1 12) ∧ (X.1 12 i1 12) ≤ (1 : Int32) := hX.at1 12 i1 12
      exact okz_of (by grind) (by grind)
    have pf5 : (0 : Int32) ≤ (X.1 12 i1 12) ∧ (X.1 12 i1 12) ≤ (1 : Int32) := by
      have c6 : (0 : Int32) ≤ (X.1 12 i1 12) ∧ (X.1 12 i1 12) ≤ (1 : Int32) := hX.at1 12 i1 12
      exact ⟨by grind, by grind⟩
    exact ok_some pf5
  · have w7 : E4 = "java/lang/IndexOutOfBoundsException" := w1
    have pf8 : E4 = "java/lang/IndexOutOfBoundsException" := by grind
    exact ok_some pf8
theorem s_X6_letter {A : Nat → Nat → Nat → Prop} {B : SS} (X : SS) (hX : IV A B X) (p0 : Int32) (p1 : Int32) : ok (f_X6_letter X p0 p1) (fun r => se (fun v => (0 : Int32) ≤ v ∧ v ≤ (65535 : Int32)) (fun E => E = "java/lang/IndexOutOfBoundsException" ∨ E = "java/util/NoSuchElementException") r) := by
  unfold f_X6_letter
  refine ok_e0 (s_X6_workAt X hX p0) (fun i1 w1 => ?_) (fun E4 w1 => ?_)
  · have w2 : ((0 : Int32) ≤ p0 ∧ p0 < (X.1 0 0 11)) := w1
    refine ok_ite (fun q3 => ?_) (fun q3 => ?_)
    · have pf4 : "java/util/NoSuchElementException" = "java/lang/IndexOutOfBoundsException" ∨ "java/util/NoSuchElementException" = "java/util/NoSuchElementException" := by simp
      exact ok_some pf4
    · refine ok_ite (fun q5 => ?_) (fun q5 => ?_)
      · have pf6 : "java/util/NoSuchElementException" = "java/lang/IndexOutOfBoundsException" ∨ "java/util/NoSuchElementException" = "java/util/NoSuchElementException" := by simp
        exact ok_some pf6
      · refine ok_ite (fun q7 => ?_) (fun q7 => ?_)
        · refine ok_gd ?_ (fun g8 => ?_)
          · have c9 : (0 : Int32) ≤ (X.1 1 (i1 + 1) 2) ∧ (X.1 1 (i1 + 1) 2) ≤ (24 : Int32) := hX.at1 1 (i1 + 1) 2
            have c10 : (0 : Int32) ≤ (X.1 12 i1 12) ∧ (X.1 12 i1 12) ≤ (1 : Int32) := hX.at1 12 i1 12
            exact vp_of (by decide) (by grind) (show p1 < (24 : Int32) by grind)
          have g8 := vp_to (by decide) g8
          have g8 : (0 : Int32) ≤ p1 ∧ p1 < (24 : Int32) := g8
          refine ok_gd ?_ (fun g11 => ?_)
          · have c12 : (0 : Int32) ≤ (X.1 2 (i1 + 1) (p1).toNatClampNeg) ∧ (X.1 2 (i1 + 1) (p1).toNatClampNeg) ≤ (65535 : Int32) := hX.at1 2 (i1 + 1) ((p1).toNatClampNeg)
            have c13 : (0 : Int32) ≤ (X.1 12 i1 12) ∧ (X.1 12 i1 12) ≤ (1 : Int32) := hX.at1 12 i1 12
            have c14 : (0 : Int32) ≤ (X.1 1 (i1 + 1) 2) ∧ (X.1 1 (i1 + 1) 2) ≤ (24 : Int32) := hX.at1 1 (i1 + 1) 2
            exact okc_of (by grind) (by grind)
          have pf15 : (0 : Int32) ≤ (X.1 2 (i1 + 1) (p1).toNatClampNeg) ∧ (X.1 2 (i1 + 1) (p1).toNatClampNeg) ≤ (65535 : Int32) := by
            have c16 : (0 : Int32) ≤ (X.1 2 (i1 + 1) (p1).toNatClampNeg) ∧ (X.1 2 (i1 + 1) (p1).toNatClampNeg) ≤ (65535 : Int32) := hX.at1 2 (i1 + 1) ((p1).toNatClampNeg)
            have c17 : (0 : Int32) ≤ (X.1 12 i1 12) ∧ (X.1 12 i1 12) ≤ (1 : Int32) := hX.at1 12 i1 12
            have c18 : (0 : Int32) ≤ (X.1 1 (i1 + 1) 2) ∧ (X.1 1 (i1 + 1) 2) ≤ (24 : Int32) := hX.at1 1 (i1 + 1) 2
            exact ⟨by grind, by grind⟩
          exact ok_some pf15
        · have pf19 : "java/util/NoSuchElementException" = "java/lang/IndexOutOfBoundsException" ∨ "java/util/NoSuchElementException" = "java/util/NoSuchElementException" := by simp
          exact ok_some pf19
  · have w20 : E4 = "java/lang/IndexOutOfBoundsException" := w1
    have pf21 : E4 = "java/lang/IndexOutOfBoundsException" ∨ E4 = "java/util/NoSuchElementException" := by grind
    exact ok_some pf21
theorem s_X6_drop {A : Nat → Nat → Nat → Prop} {B : SS} (X : SS) (hX : IV A B X) (p0 : Int32) (a1 : ∀ j, 1 ≤ j → A 1 j 2) (a2 : ∀ j, A 12 j 11) (a3 : ∀ j, A 12 j 12) (a4 : ∀ j, A 12 j 13) (a5 : ∀ j, A 12 j 14) (a6 : ∀ j p, A 13 j p) (a7 : A 16 1 4) (a8 : A 16 1 5) (a9 : A 16 1 6) (a10 : A 16 1 7) (a11 : A 16 1 8) (a12 : ∀ p, A 17 1 p) (a13 : ∀ p, A 18 1 p) (a14 : ∀ p, A 19 1 p) (a15 : ∀ p, A 20 1 p) : ok (f_X6_drop X p0) (fun r => IV A B r.1 ∧ se (fun v => True) (fun E => E = "java/lang/IndexOutOfBoundsException" ∨ E = "java/lang/UnsupportedOperationException") r.2) := by
  unfold f_X6_drop
  refine ok_e0 (s_X6_workAt X hX p0) (fun i1 w1 => ?_) (fun E4 w1 => ?_)
  · have w2 : ((0 : Int32) ≤ p0 ∧ p0 < (X.1 0 0 11)) := w1
    refine ok_ite (fun q3 => ?_) (fun q3 => ?_)
    · have pf4 : "java/lang/UnsupportedOperationException" = "java/lang/IndexOutOfBoundsException" ∨ "java/lang/UnsupportedOperationException" = "java/lang/UnsupportedOperationException" := by simp
      exact ok_some ⟨hX, pf4⟩
    · refine ok_b1 (s_X6_dropBody X hX i1 a1 (a2 i1) (a3 i1) (a4 i1) (a5 i1) (fun p => a6 i1 p) (a7) (a8) (a9) (a10) (a11) (fun p => a12 p) (fun p => a13 p) (fun p => a14 p) (fun p => a15 p)) (fun X9 v8 w5 => ?_)
      have hX9 : IV A B X9 := w5.1
      refine ok_b0 (s_X6_bodyCount X9 hX9) (fun v11 w6 => ?_)
      have w7 : ((0 : Int32) ≤ v11 ∧ v11 ≤ (40 : Int32)) := w6
      exact ok_some ⟨hX9, trivial⟩
  · have w8 : E4 = "java/lang/IndexOutOfBoundsException" := w1
    have pf9 : E4 = "java/lang/IndexOutOfBoundsException" ∨ E4 = "java/lang/UnsupportedOperationException" := by grind
    exact ok_some ⟨hX, pf9⟩
theorem s_X6_capacity {A : Nat → Nat → Nat → Prop} {B : SS} (X : SS) (hX : IV A B X) (p0 : Int32) (a1 : A 0 0 13) (a2 : ∀ j, 1 ≤ j → A 1 j 2) (a3 : ∀ j, A 12 j 11) (a4 : ∀ j, A 12 j 12) (a5 : ∀ j, A 12 j 13) (a6 : ∀ j, A 12 j 14) (a7 : ∀ j p, A 13 j p) (a8 : A 16 1 4) (a9 : A 16 1 5) (a10 : A 16 1 6) (a11 : A 16 1 7) (a12 : A 16 1 8) (a13 : ∀ p, A 17 1 p) (a14 : ∀ p, A 18 1 p) (a15 : ∀ p, A 19 1 p) (a16 : ∀ p, A 20 1 p) : ok (f_X6_capacity X p0) (fun r => IV A B r.1 ∧ se (fun v => True) (fun E => E = "java/lang/IllegalArgumentException") r.2) := by
  unfold f_X6_capacity
  refine ok_ite (fun q1 => ?_) (fun q1 => ?_)
  · have pf2 : "java/lang/IllegalArgumentException" = "java/lang/IllegalArgumentException" := by simp
    exact ok_some ⟨hX, pf2⟩
  · refine ok_ite (fun q3 => ?_) (fun q3 => ?_)
    · refine ok_lq (fun X3 eq_4 => ?_)
      have pf5 : (0 : Int32) ≤ p0 ∧ p0 ≤ (40 : Int32) := by
        exact ⟨by grind, by grind⟩
      have hX3 : IV A B X3 := by rw [eq_4]; exact hX.w1 rfl (a1) pf5
      refine ok_b1 (s_X6_makeRoom X3 hX3 a2 a3 a4 a5 a6 a7 (a8) (a9) (a10) (a11) (a12) (fun p => a13 p) (fun p => a14 p) (fun p => a15 p) (fun p => a16 p)) (fun X5 v4 w6 => ?_)
      have hX5 : IV A B X5 := w6.1
      exact ok_some ⟨hX5, trivial⟩
    · have pf7 : "java/lang/IllegalArgumentException" = "java/lang/IllegalArgumentException" := by simp
      exact ok_some ⟨hX, pf7⟩
theorem s_X6_bodies {A : Nat → Nat → Nat → Prop} {B : SS} (X : SS) (hX : IV A B X) : ok (f_X6_bodies X) (fun r => True) := by
  unfold f_X6_bodies
  refine ok_b0 (s_X6_bodyCount X hX) (fun v1 w1 => ?_)
  have w2 : ((0 : Int32) ≤ v1 ∧ v1 ≤ (40 : Int32)) := w1
  exact ok_some trivial
theorem s_X6_read {A : Nat → Nat → Nat → Prop} {B : SS} (X : SS) (hX : IV A B X) (p0 : Int32) (p1 : Int32) (a1 : ∀ j, 1 ≤ j → A 1 j 2) (a2 : ∀ j p, A 11 j p) (a3 : ∀ j p, 1 ≤ j → A 2 j p) (a4 : ∀ j p, A 210 j p) (a5 : ∀ j p, 1 ≤ j → A 3 j p) (a6 : ∀ j, A 9 j 2) : ok (f_X6_read X p0 p1) (fun r => IV A B r.1 ∧ se (fun v => (0 : Int32) ≤ v ∧ v ≤ (3 : Int32)) (fun E => E = "java/lang/IndexOutOfBoundsException" ∨ E = "java/util/NoSuchElementException") r.2) := by
  unfold f_X6_read
  refine ok_e0 (s_X6_memberAt X hX p0) (fun i1 w1 => ?_) (fun E4 w1 => ?_)
  · have ni1 : i1 < 10 := w1.1
    have w2 : ((0 : Int32) ≤ p0 ∧ p0 < (X.1 0 0 10)) := w1.2
    refine ok_e0 (s_X6_workAt X hX p1) (fun i7 w3 => ?_) (fun E10 w3 => ?_)
    · have w4 : ((0 : Int32) ≤ p1 ∧ p1 < (X.1 0 0 11)) := w3
      refine ok_ite (fun q5 => ?_) (fun q5 => ?_)
      · have pf6 : "java/util/NoSuchElementException" = "java/lang/IndexOutOfBoundsException" ∨ "java/util/NoSuchElementException" = "java/util/NoSuchElementException" := by simp
        exact ok_some ⟨hX, pf6⟩
      · have pf7 : (0 : Int32) ≤ p1 ∧ p1 ≤ (39 : Int32) := by
          have c8 : (0 : Int32) ≤ (X.1 0 0 11) ∧ (X.1 0 0 11) ≤ (40 : Int32) := hX.at1 0 0 11
          exact ⟨by grind, by grind⟩
        refine ok_b1 (s_X2_keepCopy X hX i1 ni1 p1 pf7 (i7 + 1) a1 (fun p => a2 i1 p) a3 (fun p => a4 i1 p) a5 (a6 i1)) (fun X15 v14 w9 => ?_)
        have hX15 : IV A B X15 := w9.1
        have pf10 : (0 : Int32) ≤ (X15.1 9 i1 2) ∧ (X15.1 9 i1 2) ≤ (3 : Int32) := by
          have c11 : (0 : Int32) ≤ (X15.1 9 i1 2) ∧ (X15.1 9 i1 2) ≤ (3 : Int32) := hX15.at1 9 i1 2
          exact ⟨by grind, by grind⟩
        exact ok_some ⟨hX15, pf10⟩
    · have w12 : E10 = "java/lang/IndexOutOfBoundsException" := w3
      have pf13 : E10 = "java/lang/IndexOutOfBoundsException" ∨ E10 = "java/util/NoSuchElementException" := by grind
      exact ok_some ⟨hX, pf13⟩
  · have w14 : E4 = "java/lang/IndexOutOfBoundsException" := w1
    have pf15 : E4 = "java/lang/IndexOutOfBoundsException" ∨ E4 = "java/util/NoSuchElementException" := by grind
    exact ok_some ⟨hX, pf15⟩
theorem s_X6_copy {A : Nat → Nat → Nat → Prop} {B : SS} (X : SS) (hX : IV A B X) (p0 : Int32) (p1 : Int32) : ok (f_X6_copy X p0 p1) (fun r => se (fun v => True) (fun E => E = "java/lang/IndexOutOfBoundsException" ∨ E = "java/util/NoSuchElementException") r) := by
  unfold f_X6_copy
  refine ok_e0 (s_X6_memberAt X hX p0) (fun i1 w1 => ?_) (fun E4 w1 => ?_)
  · have ni1 : i1 < 10 := w1.1
    have w2 : ((0 : Int32) ≤ p0 ∧ p0 < (X.1 0 0 10)) := w1.2
    refine ok_ite (fun q3 => ?_) (fun q3 => ?_)
    · have pf4 : "java/util/NoSuchElementException" = "java/lang/IndexOutOfBoundsException" ∨ "java/util/NoSuchElementException" = "java/util/NoSuchElementException" := by simp
      exact ok_some pf4
    · refine ok_ite (fun q5 => ?_) (fun q5 => ?_)
      · refine ok_gd ?_ (fun g6 => ?_)
        · have c7 : (0 : Int32) ≤ (X.1 9 i1 2) ∧ (X.1 9 i1 2) ≤ (3 : Int32) := hX.at1 9 i1 2
          exact vp_of (by decide) (by grind) (show p1 < (3 : Int32) by grind)
        have g6 := vp_to (by decide) g6
        have g6 : (0 : Int32) ≤ p1 ∧ p1 < (3 : Int32) := g6
        exact ok_some trivial
      · have pf8 : "java/util/NoSuchElementException" = "java/lang/IndexOutOfBoundsException" ∨ "java/util/NoSuchElementException" = "java/util/NoSuchElementException" := by simp
        exact ok_some pf8
  · have w9 : E4 = "java/lang/IndexOutOfBoundsException" := w1
    have pf10 : E4 = "java/lang/IndexOutOfBoundsException" ∨ E4 = "java/util/NoSuchElementException" := by grind
    exact ok_some pf10
theorem s_X6_isOpenToVoteOf {A : Nat → Nat → Nat → Prop} {B : SS} (X : SS) (hX : IV A B X) (p0 : Int32) (ip0 : (0 : Int32) ≤ p0 ∧ p0 ≤ (9 : Int32)) (i2 : Nat) : ok (f_X6_isOpenToVoteOf X p0 i2) (fun r => (0 : Int32) ≤ r ∧ r ≤ (1 : Int32)) := by
  unfold f_X6_isOpenToVoteOf
  refine ok_ite (fun q1 => ?_) (fun q1 => ?_)
  · have pf2 : (0 : Int32) ≤ (0 : Int32) ∧ (0 : Int32) ≤ (1 : Int32) := by
      exact ⟨by grind, by grind⟩
    exact ok_some pf2
  · refine ok_ite (fun q3 => ?_) (fun q3 => ?_)
    · have pf4 : (0 : Int32) ≤ (0 : Int32) ∧ (0 : Int32) ≤ (1 : Int32) := by
        exact ⟨by grind, by grind⟩
      exact ok_some pf4
    · refine ok_ite (fun q5 => ?_) (fun q5 => ?_)
      · have pf6 : (0 : Int32) ≤ (0 : Int32) ∧ (0 : Int32) ≤ (1 : Int32) := by
          exact ⟨by grind, by grind⟩
        exact ok_some pf6
      · have pf7 : (0 : Int32) ≤ (1 : Int32) ∧ (1 : Int32) ≤ (1 : Int32) := by
          exact ⟨by grind, by grind⟩
        exact ok_some pf7
theorem s_X6_takeNone_L2 {A : Nat → Nat → Nat → Prop} {B : SS} (a1 : ∀ p, A 25 0 p) : ∀ (n : Nat), ∀ (v3 : Int32) (X4 : SS) (k1 : (SS → Option (SS × Unit))), (FU v3 8 n) → ((0 : Int32) ≤ v3 ∧ v3 ≤ (8 : Int32)) → (IV A B X4) → (∀ (k_0 : SS), (IV A B k_0) → ok (k1 k_0) (fun r => IV A B r.1 ∧ True)) → ok (f_X6_takeNone_L2 n v3 X4 k1) (fun r => IV A B r.1 ∧ True) := by
  intro n
  induction n with
  | zero =>
    intro v3 X4 k1 hF iv3 hX4 hk
    exact (FU.stop hF (show v3 ≤ (8 : Int32) by grind)).elim
  | succ n ih =>
    intro v3 X4 k1 hF iv3 hX4 hk
    rw [f_X6_takeNone_L2]
    refine ok_ite (fun q1 => ?_) (fun q1 => ?_)
    · exact hk X4 hX4
    · refine ok_gd ?_ (fun g2 => ?_)
      · exact vp_of (by decide) (by grind) (show v3 < (8 : Int32) by grind)
      have g2 := vp_to (by decide) g2
      have g2 : (0 : Int32) ≤ v3 ∧ v3 < (8 : Int32) := g2
      refine ok_lq (fun X7 eq_3 => ?_)
      have hX7 : IV A B X7 := by rw [eq_3]; exact hX4.w1 rfl (a1 ((v3).toNatClampNeg)) (show ((-1) : Int32) ≤ ((-1) : Int32) ∧ ((-1) : Int32) ≤ (39 : Int32) from ⟨by decide, by decide⟩)
      have pf4 : FU (v3 + (1 : Int32)) 8 n := by
        exact FU.step hF (by grind)
      have pf5 : (0 : Int32) ≤ (v3 + (1 : Int32)) ∧ (v3 + (1 : Int32)) ≤ (8 : Int32) := by
        exact ⟨by grind, by grind⟩
      exact ih (v3 + (1 : Int32)) X7 k1 pf4 pf5 hX7 hk
theorem s_X6_takeNone {A : Nat → Nat → Nat → Prop} {B : SS} (X : SS) (hX : IV A B X) (a1 : ∀ p, A 25 0 p) : ok (f_X6_takeNone X) (fun r => IV A B r.1 ∧ True) := by
  unfold f_X6_takeNone
  have pf1 : FU (0 : Int32) 8 1000 := by
    exact FU.start (by grind) (by decide)
  refine s_X6_takeNone_L2 (fun p => a1 p) 1000 (0 : Int32) X _ pf1 (show (0 : Int32) ≤ (0 : Int32) ∧ (0 : Int32) ≤ (8 : Int32) from ⟨by decide, by decide⟩) hX (fun X2 hX2 => ?_)
  exact ok_some ⟨hX2, trivial⟩
theorem s_X6_takeWorks_L6 {A : Nat → Nat → Nat → Prop} {B : SS} (p0 : Int32) (ip0 : (0 : Int32) ≤ p0 ∧ p0 ≤ (9 : Int32)) (a1 : ∀ p, A 25 0 p) : ∀ (n : Nat), ∀ (v6 : Int32) (X7 : SS) (k4 : (SS → Option (SS × Unit))), (FU v6 40 n) → ((0 : Int32) ≤ v6 ∧ v6 ≤ (40 : Int32)) → (IV A B X7) → (∀ (k_0 : SS), (IV A B k_0) → ok (k4 k_0) (fun r => IV A B r.1 ∧ True)) → ok (f_X6_takeWorks_L6 p0 n v6 X7 k4) (fun r => IV A B r.1 ∧ True) := by
  intro n
  induction n with
  | zero =>
    intro v6 X7 k4 hF iv6 hX7 hk
    exact (FU.stop hF (show v6 ≤ (40 : Int32) by grind)).elim
  | succ n ih =>
    intro v6 X7 k4 hF iv6 hX7 hk
    rw [f_X6_takeWorks_L6]
    refine ok_ite (fun q1 => ?_) (fun q1 => ?_)
    · exact hk X7 hX7
    · refine ok_gd ?_ (fun g2 => ?_)
      · have c3 : (0 : Int32) ≤ (X7.1 0 0 11) ∧ (X7.1 0 0 11) ≤ (40 : Int32) := hX7.at1 0 0 11
        exact vp_of (by decide) (by grind) (show v6 < (40 : Int32) by grind)
      have g2 := vp_to (by decide) g2
      have g2 : (0 : Int32) ≤ v6 ∧ v6 < (40 : Int32) := g2
      refine ok_ite (fun q4 => ?_) (fun q4 => ?_)
      · refine ok_b0 (s_X5_isCounted X7 hX7 (v6).toNatClampNeg) (fun v11 w5 => ?_)
        have w6 : (0 : Int32) ≤ v11 ∧ v11 ≤ (1 : Int32) := w5
        refine ok_ite (fun q7 => ?_) (fun q7 => ?_)
        · have pf8 : FU (v6 + (1 : Int32)) 40 n := by
            have c9 : (0 : Int32) ≤ (X7.1 0 0 11) ∧ (X7.1 0 0 11) ≤ (40 : Int32) := hX7.at1 0 0 11
            have c10 : (0 : Int32) ≤ (X7.1 12 (v6).toNatClampNeg 7) ∧ (X7.1 12 (v6).toNatClampNeg 7) ≤ (9 : Int32) := hX7.at1 12 ((v6).toNatClampNeg) 7
            exact FU.step hF (by grind)
          have pf11 : (0 : Int32) ≤ (v6 + (1 : Int32)) ∧ (v6 + (1 : Int32)) ≤ (40 : Int32) := by
            have c12 : (0 : Int32) ≤ (X7.1 0 0 11) ∧ (X7.1 0 0 11) ≤ (40 : Int32) := hX7.at1 0 0 11
            have c13 : (0 : Int32) ≤ (X7.1 12 (v6).toNatClampNeg 7) ∧ (X7.1 12 (v6).toNatClampNeg 7) ≤ (9 : Int32) := hX7.at1 12 ((v6).toNatClampNeg) 7
            exact ⟨by grind, by grind⟩
          exact ih (v6 + (1 : Int32)) X7 k4 pf8 pf11 hX7 hk
        · refine ok_gd ?_ (fun g14 => ?_)
          · have c15 : (0 : Int32) ≤ (X7.1 12 (v6).toNatClampNeg 8) ∧ (X7.1 12 (v6).toNatClampNeg 8) ≤ (7 : Int32) := hX7.at1 12 ((v6).toNatClampNeg) 8
            have c16 : (0 : Int32) ≤ (X7.1 0 0 11) ∧ (X7.1 0 0 11) ≤ (40 : Int32) := hX7.at1 0 0 11
            have c17 : (0 : Int32) ≤ (X7.1 12 (v6).toNatClampNeg 7) ∧ (X7.1 12 (v6).toNatClampNeg 7) ≤ (9 : Int32) := hX7.at1 12 ((v6).toNatClampNeg) 7
            exact vp_of (by decide) (by grind) (show (X7.1 12 (v6).toNatClampNeg 8) < (8 : Int32) by grind)
          have g14 := vp_to (by decide) g14
          have g14 : (0 : Int32) ≤ (X7.1 12 (v6).toNatClampNeg 8) ∧ (X7.1 12 (v6).toNatClampNeg 8) < (8 : Int32) := g14
          refine ok_lq (fun v15 eq_18 => ?_)
          refine ok_ite (fun q19 => ?_) (fun q19 => ?_)
          · refine ok_gd ?_ (fun g20 => ?_)
            · have c21 : (0 : Int32) ≤ (X7.1 12 (v6).toNatClampNeg 8) ∧ (X7.1 12 (v6).toNatClampNeg 8) ≤ (7 : Int32) := hX7.at1 12 ((v6).toNatClampNeg) 8
              have c22 : (0 : Int32) ≤ (X7.1 0 0 11) ∧ (X7.1 0 0 11) ≤ (40 : Int32) := hX7.at1 0 0 11
              have c23 : (0 : Int32) ≤ (X7.1 12 (v6).toNatClampNeg 7) ∧ (X7.1 12 (v6).toNatClampNeg 7) ≤ (9 : Int32) := hX7.at1 12 ((v6).toNatClampNeg) 7
              exact vp_of (by decide) (by grind) (show (X7.1 12 (v6).toNatClampNeg 8) < (8 : Int32) by grind)
            have g20 := vp_to (by decide) g20
            have g20 : (0 : Int32) ≤ (X7.1 12 (v6).toNatClampNeg 8) ∧ (X7.1 12 (v6).toNatClampNeg 8) < (8 : Int32) := g20
            refine ok_lq (fun X18 eq_24 => ?_)
            have pf25 : ((-1) : Int32) ≤ v6 ∧ v6 ≤ (39 : Int32) := by
              have c26 : (0 : Int32) ≤ (X7.1 0 0 11) ∧ (X7.1 0 0 11) ≤ (40 : Int32) := hX7.at1 0 0 11
              have c27 : (0 : Int32) ≤ (X7.1 12 (v6).toNatClampNeg 7) ∧ (X7.1 12 (v6).toNatClampNeg 7) ≤ (9 : Int32) := hX7.at1 12 ((v6).toNatClampNeg) 7
              have c28 : (0 : Int32) ≤ (X7.1 12 (v6).toNatClampNeg 8) ∧ (X7.1 12 (v6).toNatClampNeg 8) ≤ (7 : Int32) := hX7.at1 12 ((v6).toNatClampNeg) 8
              exact ⟨by grind, by grind⟩
            have hX18 : IV A B X18 := by rw [eq_24]; exact hX7.w1 rfl (a1 (((X7.1 12 (v6).toNatClampNeg 8)).toNatClampNeg)) pf25
            have pf29 : FU (v6 + (1 : Int32)) 40 n := by
              have c30 : (0 : Int32) ≤ (X7.1 0 0 11) ∧ (X7.1 0 0 11) ≤ (40 : Int32) := hX7.at1 0 0 11
              have c31 : (0 : Int32) ≤ (X7.1 12 (v6).toNatClampNeg 7) ∧ (X7.1 12 (v6).toNatClampNeg 7) ≤ (9 : Int32) := hX7.at1 12 ((v6).toNatClampNeg) 7
              have c32 : (0 : Int32) ≤ (X7.1 12 (v6).toNatClampNeg 8) ∧ (X7.1 12 (v6).toNatClampNeg 8) ≤ (7 : Int32) := hX7.at1 12 ((v6).toNatClampNeg) 8
              exact FU.step hF (by grind)
            have pf33 : (0 : Int32) ≤ (v6 + (1 : Int32)) ∧ (v6 + (1 : Int32)) ≤ (40 : Int32) := by
              have c34 : (0 : Int32) ≤ (X7.1 0 0 11) ∧ (X7.1 0 0 11) ≤ (40 : Int32) := hX7.at1 0 0 11
              have c35 : (0 : Int32) ≤ (X7.1 12 (v6).toNatClampNeg 7) ∧ (X7.1 12 (v6).toNatClampNeg 7) ≤ (9 : Int32) := hX7.at1 12 ((v6).toNatClampNeg) 7
              have c36 : (0 : Int32) ≤ (X7.1 12 (v6).toNatClampNeg 8) ∧ (X7.1 12 (v6).toNatClampNeg 8) ≤ (7 : Int32) := hX7.at1 12 ((v6).toNatClampNeg) 8
              exact ⟨by grind, by grind⟩
            exact ih (v6 + (1 : Int32)) X18 k4 pf29 pf33 hX18 hk
          · refine ok_gd ?_ (fun g37 => ?_)
            · have c38 : ((-1) : Int32) ≤ (X7.1 25 0 ((X7.1 12 (v6).toNatClampNeg 8)).toNatClampNeg) ∧ (X7.1 25 0 ((X7.1 12 (v6).toNatClampNeg 8)).toNatClampNeg) ≤ (39 : Int32) := hX7.at1 25 0 (((X7.1 12 (v6).toNatClampNeg 8)).toNatClampNeg)
              have c39 : (0 : Int32) ≤ (X7.1 12 (v6).toNatClampNeg 8) ∧ (X7.1 12 (v6).toNatClampNeg 8) ≤ (7 : Int32) := hX7.at1 12 ((v6).toNatClampNeg) 8
              have c40 : (0 : Int32) ≤ (X7.1 0 0 11) ∧ (X7.1 0 0 11) ≤ (40 : Int32) := hX7.at1 0 0 11
              have c41 : (0 : Int32) ≤ (X7.1 12 (v6).toNatClampNeg 7) ∧ (X7.1 12 (v6).toNatClampNeg 7) ≤ (9 : Int32) := hX7.at1 12 ((v6).toNatClampNeg) 7
              exact vp_of (by decide) (by grind) (show v15 < (40 : Int32) by grind)
            have g37 := vp_to (by decide) g37
            have g37 : (0 : Int32) ≤ v15 ∧ v15 < (40 : Int32) := g37
            refine ok_b0 (s_X5_hasGreaterStyleThan X7 hX7 (v6).toNatClampNeg (v15).toNatClampNeg) (fun v20 w42 => ?_)
            have w43 : (0 : Int32) ≤ v20 ∧ v20 ≤ (1 : Int32) := w42
            refine ok_ite (fun q44 => ?_) (fun q44 => ?_)
            · have pf45 : FU (v6 + (1 : Int32)) 40 n := by
                have c46 : (0 : Int32) ≤ (X7.1 0 0 11) ∧ (X7.1 0 0 11) ≤ (40 : Int32) := hX7.at1 0 0 11
                have c47 : (0 : Int32) ≤ (X7.1 12 (v6).toNatClampNeg 7) ∧ (X7.1 12 (v6).toNatClampNeg 7) ≤ (9 : Int32) := hX7.at1 12 ((v6).toNatClampNeg) 7
                have c48 : (0 : Int32) ≤ (X7.1 12 (v6).toNatClampNeg 8) ∧ (X7.1 12 (v6).toNatClampNeg 8) ≤ (7 : Int32) := hX7.at1 12 ((v6).toNatClampNeg) 8
                exact FU.step hF (by grind)
              have pf49 : (0 : Int32) ≤ (v6 + (1 : Int32)) ∧ (v6 + (1 : Int32)) ≤ (40 : Int32) := by
                have c50 : (0 : Int32) ≤ (X7.1 0 0 11) ∧ (X7.1 0 0 11) ≤ (40 : Int32) := hX7.at1 0 0 11
                have c51 : (0 : Int32) ≤ (X7.1 12 (v6).toNatClampNeg 7) ∧ (X7.1 12 (v6).toNatClampNeg 7) ≤ (9 : Int32) := hX7.at1 12 ((v6).toNatClampNeg) 7
                have c52 : (0 : Int32) ≤ (X7.1 12 (v6).toNatClampNeg 8) ∧ (X7.1 12 (v6).toNatClampNeg 8) ≤ (7 : Int32) := hX7.at1 12 ((v6).toNatClampNeg) 8
                exact ⟨by grind, by grind⟩
              exact ih (v6 + (1 : Int32)) X7 k4 pf45 pf49 hX7 hk
            · refine ok_gd ?_ (fun g53 => ?_)
              · have c54 : (0 : Int32) ≤ (X7.1 12 (v6).toNatClampNeg 8) ∧ (X7.1 12 (v6).toNatClampNeg 8) ≤ (7 : Int32) := hX7.at1 12 ((v6).toNatClampNeg) 8
                have c55 : (0 : Int32) ≤ (X7.1 0 0 11) ∧ (X7.1 0 0 11) ≤ (40 : Int32) := hX7.at1 0 0 11
                have c56 : (0 : Int32) ≤ (X7.1 12 (v6).toNatClampNeg 7) ∧ (X7.1 12 (v6).toNatClampNeg 7) ≤ (9 : Int32) := hX7.at1 12 ((v6).toNatClampNeg) 7
                exact vp_of (by decide) (by grind) (show (X7.1 12 (v6).toNatClampNeg 8) < (8 : Int32) by grind)
              have g53 := vp_to (by decide) g53
              have g53 : (0 : Int32) ≤ (X7.1 12 (v6).toNatClampNeg 8) ∧ (X7.1 12 (v6).toNatClampNeg 8) < (8 : Int32) := g53
              refine ok_lq (fun X24 eq_57 => ?_)
              have pf58 : ((-1) : Int32) ≤ v6 ∧ v6 ≤ (39 : Int32) := by
                have c59 : (0 : Int32) ≤ (X7.1 0 0 11) ∧ (X7.1 0 0 11) ≤ (40 : Int32) := hX7.at1 0 0 11
                have c60 : (0 : Int32) ≤ (X7.1 12 (v6).toNatClampNeg 7) ∧ (X7.1 12 (v6).toNatClampNeg 7) ≤ (9 : Int32) := hX7.at1 12 ((v6).toNatClampNeg) 7
                have c61 : (0 : Int32) ≤ (X7.1 12 (v6).toNatClampNeg 8) ∧ (X7.1 12 (v6).toNatClampNeg 8) ≤ (7 : Int32) := hX7.at1 12 ((v6).toNatClampNeg) 8
                exact ⟨by grind, by grind⟩
              have hX24 : IV A B X24 := by rw [eq_57]; exact hX7.w1 rfl (a1 (((X7.1 12 (v6).toNatClampNeg 8)).toNatClampNeg)) pf58
              have pf62 : FU (v6 + (1 : Int32)) 40 n := by
                have c63 : (0 : Int32) ≤ (X7.1 0 0 11) ∧ (X7.1 0 0 11) ≤ (40 : Int32) := hX7.at1 0 0 11
                have c64 : (0 : Int32) ≤ (X7.1 12 (v6).toNatClampNeg 7) ∧ (X7.1 12 (v6).toNatClampNeg 7) ≤ (9 : Int32) := hX7.at1 12 ((v6).toNatClampNeg) 7
                have c65 : (0 : Int32) ≤ (X7.1 12 (v6).toNatClampNeg 8) ∧ (X7.1 12 (v6).toNatClampNeg 8) ≤ (7 : Int32) := hX7.at1 12 ((v6).toNatClampNeg) 8
                exact FU.step hF (by grind)
              have pf66 : (0 : Int32) ≤ (v6 + (1 : Int32)) ∧ (v6 + (1 : Int32)) ≤ (40 : Int32) := by
                have c67 : (0 : Int32) ≤ (X7.1 0 0 11) ∧ (X7.1 0 0 11) ≤ (40 : Int32) := hX7.at1 0 0 11
                have c68 : (0 : Int32) ≤ (X7.1 12 (v6).toNatClampNeg 7) ∧ (X7.1 12 (v6).toNatClampNeg 7) ≤ (9 : Int32) := hX7.at1 12 ((v6).toNatClampNeg) 7
                have c69 : (0 : Int32) ≤ (X7.1 12 (v6).toNatClampNeg 8) ∧ (X7.1 12 (v6).toNatClampNeg 8) ≤ (7 : Int32) := hX7.at1 12 ((v6).toNatClampNeg) 8
                exact ⟨by grind, by grind⟩
              exact ih (v6 + (1 : Int32)) X24 k4 pf62 pf66 hX24 hk
      · have pf70 : FU (v6 + (1 : Int32)) 40 n := by
          have c71 : (0 : Int32) ≤ (X7.1 0 0 11) ∧ (X7.1 0 0 11) ≤ (40 : Int32) := hX7.at1 0 0 11
          have c72 : (0 : Int32) ≤ (X7.1 12 (v6).toNatClampNeg 7) ∧ (X7.1 12 (v6).toNatClampNeg 7) ≤ (9 : Int32) := hX7.at1 12 ((v6).toNatClampNeg) 7
          exact FU.step hF (by grind)
        have pf73 : (0 : Int32) ≤ (v6 + (1 : Int32)) ∧ (v6 + (1 : Int32)) ≤ (40 : Int32) := by
          have c74 : (0 : Int32) ≤ (X7.1 0 0 11) ∧ (X7.1 0 0 11) ≤ (40 : Int32) := hX7.at1 0 0 11
          have c75 : (0 : Int32) ≤ (X7.1 12 (v6).toNatClampNeg 7) ∧ (X7.1 12 (v6).toNatClampNeg 7) ≤ (9 : Int32) := hX7.at1 12 ((v6).toNatClampNeg) 7
          exact ⟨by grind, by grind⟩
        exact ih (v6 + (1 : Int32)) X7 k4 pf70 pf73 hX7 hk
theorem s_X6_takeWorks {A : Nat → Nat → Nat → Prop} {B : SS} (X : SS) (hX : IV A B X) (p0 : Int32) (ip0 : (0 : Int32) ≤ p0 ∧ p0 ≤ (9 : Int32)) (a1 : ∀ p, A 25 0 p) : ok (f_X6_takeWorks X p0) (fun r => IV A B r.1 ∧ True) := by
  unfold f_X6_takeWorks
  refine ok_b1 (s_X6_takeNone X hX (fun p => a1 p)) (fun X2 v1 w1 => ?_)
  have hX2 : IV A B X2 := w1.1
  have pf2 : (0 : Int32) ≤ p0 ∧ p0 ≤ (9 : Int32) := by
    exact ⟨by grind, by grind⟩
  have pf3 : FU (0 : Int32) 40 1000 := by
    exact FU.start (by grind) (by decide)
  refine s_X6_takeWorks_L6 p0 pf2 (fun p => a1 p) 1000 (0 : Int32) X2 _ pf3 (show (0 : Int32) ≤ (0 : Int32) ∧ (0 : Int32) ≤ (40 : Int32) from ⟨by decide, by decide⟩) hX2 (fun X5 hX5 => ?_)
  exact ok_some ⟨hX5, trivial⟩
theorem s_X6_takenPoints_L4 {A : Nat → Nat → Nat → Prop} {B : SS} (X : SS) (hX : IV A B X) : ∀ (n : Nat), ∀ (v4 : Int32) (v5 : UInt32) (k2 : (UInt32 → Option (UInt32))), (FU v4 8 n) → ((0 : Int32) ≤ v4 ∧ v4 ≤ (8 : Int32)) → (vf_n32 v5) → (∀ (k_0 : UInt32), (vf_n32 k_0) → ok (k2 k_0) (fun r => vf_n32 r)) → ok (f_X6_takenPoints_L4 X n v4 v5 k2) (fun r => vf_n32 r) := by
  intro n
  induction n with
  | zero =>
    intro v4 v5 k2 hF iv4 nv5 hk
    exact (FU.stop hF (show v4 ≤ (8 : Int32) by grind)).elim
  | succ n ih =>
    intro v4 v5 k2 hF iv4 nv5 hk
    rw [f_X6_takenPoints_L4]
    refine ok_ite (fun q1 => ?_) (fun q1 => ?_)
    · exact hk v5 nv5
    · refine ok_gd ?_ (fun g2 => ?_)
      · have c3 : (0 : Int32) ≤ (X.1 0 0 9) ∧ (X.1 0 0 9) ≤ (8 : Int32) := hX.at1 0 0 9
        exact vp_of (by decide) (by grind) (show v4 < (8 : Int32) by grind)
      have g2 := vp_to (by decide) g2
      have g2 : (0 : Int32) ≤ v4 ∧ v4 < (8 : Int32) := g2
      refine ok_lq (fun v8 eq_4 => ?_)
      refine ok_ite (fun q5 => ?_) (fun q5 => ?_)
      · have pf6 : FU (v4 + (1 : Int32)) 8 n := by
          have c7 : (0 : Int32) ≤ (X.1 0 0 9) ∧ (X.1 0 0 9) ≤ (8 : Int32) := hX.at1 0 0 9
          exact FU.step hF (by grind)
        have pf8 : (0 : Int32) ≤ (v4 + (1 : Int32)) ∧ (v4 + (1 : Int32)) ≤ (8 : Int32) := by
          have c9 : (0 : Int32) ≤ (X.1 0 0 9) ∧ (X.1 0 0 9) ≤ (8 : Int32) := hX.at1 0 0 9
          exact ⟨by grind, by grind⟩
        exact ih (v4 + (1 : Int32)) v5 k2 pf6 pf8 nv5 hk
      · refine ok_gd ?_ (fun g10 => ?_)
        · have c11 : (0 : Int32) ≤ (X.1 0 0 9) ∧ (X.1 0 0 9) ≤ (8 : Int32) := hX.at1 0 0 9
          exact vp_of (by decide) (by grind) (show v4 < (8 : Int32) by grind)
        have g10 := vp_to (by decide) g10
        have g10 : (0 : Int32) ≤ v4 ∧ v4 < (8 : Int32) := g10
        refine ok_gd ?_ (fun g12 => ?_)
        · have c13 : ((-1) : Int32) ≤ (X.1 25 0 (v4).toNatClampNeg) ∧ (X.1 25 0 (v4).toNatClampNeg) ≤ (39 : Int32) := hX.at1 25 0 ((v4).toNatClampNeg)
          have c14 : (0 : Int32) ≤ (X.1 0 0 9) ∧ (X.1 0 0 9) ≤ (8 : Int32) := hX.at1 0 0 9
          exact vp_of (by decide) (by grind) (show v8 < (40 : Int32) by grind)
        have g12 := vp_to (by decide) g12
        have g12 : (0 : Int32) ≤ v8 ∧ v8 < (40 : Int32) := g12
        refine ok_b0 (s_X5_styleAbove X hX (v8).toNatClampNeg) (fun v12 w15 => ?_)
        refine ok_lq (fun v14 eq_16 => ?_)
        refine ok_gd ?_ (fun g17 => ?_)
        · have c18 : ((-1) : Int32) ≤ (X.1 25 0 (v4).toNatClampNeg) ∧ (X.1 25 0 (v4).toNatClampNeg) ≤ (39 : Int32) := hX.at1 25 0 ((v4).toNatClampNeg)
          have c19 : (0 : Int32) ≤ (X.1 0 0 9) ∧ (X.1 0 0 9) ≤ (8 : Int32) := hX.at1 0 0 9
          exact vp_of (by decide) (by grind) (show v8 < (40 : Int32) by grind)
        have g17 := vp_to (by decide) g17
        have g17 : (0 : Int32) ≤ v8 ∧ v8 < (40 : Int32) := g17
        refine ok_b0 (s_X5_styleUnder X hX (v8).toNatClampNeg) (fun v16 w20 => ?_)
        refine ok_ite (fun q21 => ?_) (fun q21 => ?_)
        · refine ok_gd ?_ (fun g22 => ?_)
          · exact nn_add0 nv5
          refine ok_lq (fun v23 eq_23 => ?_)
          have nv23 : vf_n32 v23 := by rw [eq_23]; exact nn_add0 nv5
          have pf24 : FU (v4 + (1 : Int32)) 8 n := by
            have c25 : (0 : Int32) ≤ (X.1 0 0 9) ∧ (X.1 0 0 9) ≤ (8 : Int32) := hX.at1 0 0 9
            exact FU.step hF (by grind)
          have pf26 : (0 : Int32) ≤ (v4 + (1 : Int32)) ∧ (v4 + (1 : Int32)) ≤ (8 : Int32) := by
            have c27 : (0 : Int32) ≤ (X.1 0 0 9) ∧ (X.1 0 0 9) ≤ (8 : Int32) := hX.at1 0 0 9
            exact ⟨by grind, by grind⟩
          exact ih (v4 + (1 : Int32)) v23 k2 pf24 pf26 nv23 hk
        · refine ok_gd ?_ (fun g28 => ?_)
          · have z29 : ¬ (v16 = 0) := by
              grind
            exact nn_fdiv z29
          refine ok_gd ?_ (fun g30 => ?_)
          · have z31 : ¬ (v16 = 0) := by
              grind
            exact nn_addq nv5 z31
          refine ok_lq (fun v21 eq_32 => ?_)
          have z33 : ¬ (v16 = 0) := by
            grind
          have nv21 : vf_n32 v21 := by rw [eq_32]; exact nn_addq nv5 z33
          have pf34 : FU (v4 + (1 : Int32)) 8 n := by
            have c35 : (0 : Int32) ≤ (X.1 0 0 9) ∧ (X.1 0 0 9) ≤ (8 : Int32) := hX.at1 0 0 9
            exact FU.step hF (by grind)
          have pf36 : (0 : Int32) ≤ (v4 + (1 : Int32)) ∧ (v4 + (1 : Int32)) ≤ (8 : Int32) := by
            have c37 : (0 : Int32) ≤ (X.1 0 0 9) ∧ (X.1 0 0 9) ≤ (8 : Int32) := hX.at1 0 0 9
            exact ⟨by grind, by grind⟩
          exact ih (v4 + (1 : Int32)) v21 k2 pf34 pf36 nv21 hk
theorem s_X6_takenPoints {A : Nat → Nat → Nat → Prop} {B : SS} (X : SS) (hX : IV A B X) : ok (f_X6_takenPoints X) (fun r => vf_n32 r) := by
  unfold f_X6_takenPoints
  refine ok_lq (fun v1 eq_1 => ?_)
  have nv1 : vf_n32 v1 := by rw [eq_1]; exact nn_f0
  have pf2 : FU (0 : Int32) 8 1000 := by
    exact FU.start (by grind) (by decide)
  refine s_X6_takenPoints_L4 X hX 1000 (0 : Int32) v1 _ pf2 (show (0 : Int32) ≤ (0 : Int32) ∧ (0 : Int32) ≤ (8 : Int32) from ⟨by decide, by decide⟩) nv1 (fun v3 nv3 => ?_)
  exact ok_some nv3
theorem s_X6_takenBelt_L46 (v2 : Int32) (v5 : UInt32) (nv5 : vf_n32 v5) : ∀ (n : Nat), ∀ (v9 : Int32) (v10 : Int32) (k7 : (Int32 → Option (Int32))), (FU v9 6 n) → ((1 : Int32) ≤ v9 ∧ v9 ≤ (6 : Int32)) → ((0 : Int32) ≤ v10 ∧ v10 ≤ (5 : Int32)) → (∀ (k_0 : Int32), ((0 : Int32) ≤ k_0 ∧ k_0 ≤ (5 : Int32)) → ok (k7 k_0) (fun r => (0 : Int32) ≤ r ∧ r ≤ (5 : Int32))) → ok (f_X6_takenBelt_L46 v2 v5 n v9 v10 k7) (fun r => (0 : Int32) ≤ r ∧ r ≤ (5 : Int32)) := by
  intro n
  induction n with
  | zero =>
    intro v9 v10 k7 hF iv9 iv10 hk
    exact (FU.stop hF (show v9 ≤ (6 : Int32) by grind)).elim
  | succ n ih =>
    intro v9 v10 k7 hF iv9 iv10 hk
    rw [f_X6_takenBelt_L46]
    refine ok_ite (fun q1 => ?_) (fun q1 => ?_)
    · have pf2 : (0 : Int32) ≤ v10 ∧ v10 ≤ (5 : Int32) := by
        exact ⟨by grind, by grind⟩
      exact hk v10 pf2
    · refine ok_ite (fun q3 => ?_) (fun q3 => ?_)
      · have pf4 : FU (v9 + (1 : Int32)) 6 n := by
          exact FU.step hF (by grind)
        have pf5 : (1 : Int32) ≤ (v9 + (1 : Int32)) ∧ (v9 + (1 : Int32)) ≤ (6 : Int32) := by
          exact ⟨by grind, by grind⟩
        have pf6 : (0 : Int32) ≤ v10 ∧ v10 ≤ (5 : Int32) := by
          exact ⟨by grind, by grind⟩
        exact ih (v9 + (1 : Int32)) v10 k7 pf4 pf5 pf6 hk
      · refine ok_ite (fun q7 => ?_) (fun q7 => ?_)
        · have pf8 : FU (v9 + (1 : Int32)) 6 n := by
            exact FU.step hF (by grind)
          have pf9 : (1 : Int32) ≤ (v9 + (1 : Int32)) ∧ (v9 + (1 : Int32)) ≤ (6 : Int32) := by
            exact ⟨by grind, by grind⟩
          have pf10 : (0 : Int32) ≤ v10 ∧ v10 ≤ (5 : Int32) := by
            exact ⟨by grind, by grind⟩
          exact ih (v9 + (1 : Int32)) v10 k7 pf8 pf9 pf10 hk
        · have pf11 : FU (v9 + (1 : Int32)) 6 n := by
            exact FU.step hF (by grind)
          have pf12 : (1 : Int32) ≤ (v9 + (1 : Int32)) ∧ (v9 + (1 : Int32)) ≤ (6 : Int32) := by
            exact ⟨by grind, by grind⟩
          have pf13 : (0 : Int32) ≤ v9 ∧ v9 ≤ (5 : Int32) := by
            exact ⟨by grind, by grind⟩
          exact ih (v9 + (1 : Int32)) v9 k7 pf11 pf12 pf13 hk
theorem s_X6_takenBelt_L4 {A : Nat → Nat → Nat → Prop} {B : SS} (X : SS) (hX : IV A B X) : ∀ (n : Nat), ∀ (v3 : Int32) (v4 : Int32) (k1 : (Int32 → Option (Int32))), (FU v3 8 n) → ((0 : Int32) ≤ v3 ∧ v3 ≤ (8 : Int32)) → (∀ (k_0 : Int32), ok (k1 k_0) (fun r => (0 : Int32) ≤ r ∧ r ≤ (5 : Int32))) → ok (f_X6_takenBelt_L4 X n v3 v4 k1) (fun r => (0 : Int32) ≤ r ∧ r ≤ (5 : Int32)) := by
  intro n
  induction n with
  | zero =>
    intro v3 v4 k1 hF iv3 hk
    exact (FU.stop hF (show v3 ≤ (8 : Int32) by grind)).elim
  | succ n ih =>
    intro v3 v4 k1 hF iv3 hk
    rw [f_X6_takenBelt_L4]
    refine ok_ite (fun q1 => ?_) (fun q1 => ?_)
    · exact hk v4
    · refine ok_gd ?_ (fun g2 => ?_)
      · have c3 : (0 : Int32) ≤ (X.1 0 0 9) ∧ (X.1 0 0 9) ≤ (8 : Int32) := hX.at1 0 0 9
        exact vp_of (by decide) (by grind) (show v3 < (8 : Int32) by grind)
      have g2 := vp_to (by decide) g2
      have g2 : (0 : Int32) ≤ v3 ∧ v3 < (8 : Int32) := g2
      refine ok_ite (fun q4 => ?_) (fun q4 => ?_)
      · refine ok_lq (fun v18 eq_5 => ?_)
        have pf6 : FU (v3 + (1 : Int32)) 8 n := by
          have c7 : (0 : Int32) ≤ (X.1 0 0 9) ∧ (X.1 0 0 9) ≤ (8 : Int32) := hX.at1 0 0 9
          have c8 : ((-1) : Int32) ≤ (X.1 25 0 (v3).toNatClampNeg) ∧ (X.1 25 0 (v3).toNatClampNeg) ≤ (39 : Int32) := hX.at1 25 0 ((v3).toNatClampNeg)
          exact FU.step hF (by grind)
        have pf9 : (0 : Int32) ≤ (v3 + (1 : Int32)) ∧ (v3 + (1 : Int32)) ≤ (8 : Int32) := by
          have c10 : (0 : Int32) ≤ (X.1 0 0 9) ∧ (X.1 0 0 9) ≤ (8 : Int32) := hX.at1 0 0 9
          have c11 : ((-1) : Int32) ≤ (X.1 25 0 (v3).toNatClampNeg) ∧ (X.1 25 0 (v3).toNatClampNeg) ≤ (39 : Int32) := hX.at1 25 0 ((v3).toNatClampNeg)
          exact ⟨by grind, by grind⟩
        exact ih (v3 + (1 : Int32)) v18 k1 pf6 pf9 hk
      · refine ok_lq (fun v17 eq_12 => ?_)
        have pf13 : FU (v3 + (1 : Int32)) 8 n := by
          have c14 : (0 : Int32) ≤ (X.1 0 0 9) ∧ (X.1 0 0 9) ≤ (8 : Int32) := hX.at1 0 0 9
          have c15 : ((-1) : Int32) ≤ (X.1 25 0 (v3).toNatClampNeg) ∧ (X.1 25 0 (v3).toNatClampNeg) ≤ (39 : Int32) := hX.at1 25 0 ((v3).toNatClampNeg)
          exact FU.step hF (by grind)
        have pf16 : (0 : Int32) ≤ (v3 + (1 : Int32)) ∧ (v3 + (1 : Int32)) ≤ (8 : Int32) := by
          have c17 : (0 : Int32) ≤ (X.1 0 0 9) ∧ (X.1 0 0 9) ≤ (8 : Int32) := hX.at1 0 0 9
          have c18 : ((-1) : Int32) ≤ (X.1 25 0 (v3).toNatClampNeg) ∧ (X.1 25 0 (v3).toNatClampNeg) ≤ (39 : Int32) := hX.at1 25 0 ((v3).toNatClampNeg)
          exact ⟨by grind, by grind⟩
        exact ih (v3 + (1 : Int32)) v17 k1 pf13 pf16 hk
theorem s_X6_takenBelt {A : Nat → Nat → Nat → Prop} {B : SS} (X : SS) (hX : IV A B X) : ok (f_X6_takenBelt X) (fun r => (0 : Int32) ≤ r ∧ r ≤ (5 : Int32)) := by
  unfold f_X6_takenBelt
  have pf1 : FU (0 : Int32) 8 1000 := by
    exact FU.start (by grind) (by decide)
  refine s_X6_takenBelt_L4 X hX 1000 (0 : Int32) (0 : Int32) _ pf1 (show (0 : Int32) ≤ (0 : Int32) ∧ (0 : Int32) ≤ (8 : Int32) from ⟨by decide, by decide⟩) (fun v2 => ?_)
  refine ok_b0 (s_X6_takenPoints X hX) (fun v5 w2 => ?_)
  have nv5 : vf_n32 v5 := w2
  have pf3 : FU (1 : Int32) 6 1000 := by
    exact FU.start (by grind) (by decide)
  refine s_X6_takenBelt_L46 v2 v5 nv5 1000 (1 : Int32) (0 : Int32) _ pf3 (show (1 : Int32) ≤ (1 : Int32) ∧ (1 : Int32) ≤ (6 : Int32) from ⟨by decide, by decide⟩) (show (0 : Int32) ≤ (0 : Int32) ∧ (0 : Int32) ≤ (5 : Int32) from ⟨by decide, by decide⟩) (fun v8 wv8 => ?_)
  have wv8 : (0 : Int32) ≤ v8 ∧ v8 ≤ (5 : Int32) := wv8
  have pf4 : (0 : Int32) ≤ v8 ∧ v8 ≤ (5 : Int32) := by
    exact ⟨by grind, by grind⟩
  exact ok_some pf4
theorem s_X6_beltOf {A : Nat → Nat → Nat → Prop} {B : SS} (X : SS) (hX : IV A B X) (p0 : Int32) (ip0 : (0 : Int32) ≤ p0 ∧ p0 ≤ (9 : Int32)) (a1 : ∀ p, A 25 0 p) : ok (f_X6_beltOf X p0) (fun r => IV A B r.1 ∧ (0 : Int32) ≤ r.2 ∧ r.2 ≤ (5 : Int32)) := by
  unfold f_X6_beltOf
  have pf1 : (0 : Int32) ≤ p0 ∧ p0 ≤ (9 : Int32) := by
    exact ⟨by grind, by grind⟩
  refine ok_b1 (s_X6_takeWorks X hX p0 pf1 (fun p => a1 p)) (fun X2 v1 w2 => ?_)
  have hX2 : IV A B X2 := w2.1
  refine ok_b0 (s_X6_takenBelt X2 hX2) (fun v4 w3 => ?_)
  have w4 : (0 : Int32) ≤ v4 ∧ v4 ≤ (5 : Int32) := w3
  have pf5 : (0 : Int32) ≤ v4 ∧ v4 ≤ (5 : Int32) := by
    exact ⟨by grind, by grind⟩
  exact ok_some ⟨hX2, pf5⟩
theorem s_X6_vote {A : Nat → Nat → Nat → Prop} {B : SS} (X : SS) (hX : IV A B X) (p0 : Int32) (p1 : Int32) (p2 : Int32) (a1 : ∀ j, A 12 j 4) (a2 : ∀ j, A 12 j 5) (a3 : ∀ j, A 12 j 6) (a4 : ∀ j p, A 14 j p) (a5 : ∀ j p, A 15 j p) (a6 : ∀ p, A 25 0 p) : ok (f_X6_vote X p0 p1 p2) (fun r => IV A B r.1 ∧ se (fun v => (1 : Int32) ≤ v ∧ v ≤ (6 : Int32)) (fun E => E = "java/lang/IllegalArgumentException" ∨ E = "java/lang/IndexOutOfBoundsException" ∨ E = "java/lang/UnsupportedOperationException") r.2) := by
  unfold f_X6_vote
  refine ok_e0 (s_X6_memberAt X hX p0) (fun i1 w1 => ?_) (fun E4 w1 => ?_)
  · have ni1 : i1 < 10 := w1.1
    have w2 : ((0 : Int32) ≤ p0 ∧ p0 < (X.1 0 0 10)) := w1.2
    refine ok_e0 (s_X6_workAt X hX p1) (fun i7 w3 => ?_) (fun E10 w3 => ?_)
    · have w4 : ((0 : Int32) ≤ p1 ∧ p1 < (X.1 0 0 11)) := w3
      refine ok_ite (fun q5 => ?_) (fun q5 => ?_)
      · have pf6 : "java/lang/IllegalArgumentException" = "java/lang/IllegalArgumentException" ∨ "java/lang/IllegalArgumentException" = "java/lang/IndexOutOfBoundsException" ∨ "java/lang/IllegalArgumentException" = "java/lang/UnsupportedOperationException" := by simp
        exact ok_some ⟨hX, pf6⟩
      · refine ok_ite (fun q7 => ?_) (fun q7 => ?_)
        · have pf8 : (0 : Int32) ≤ p0 ∧ p0 ≤ (9 : Int32) := by
            have c9 : (0 : Int32) ≤ (X.1 0 0 10) ∧ (X.1 0 0 10) ≤ (10 : Int32) := hX.at1 0 0 10
            exact ⟨by grind, by grind⟩
          refine ok_b0 (s_X6_isOpenToVoteOf X hX p0 pf8 i7) (fun v15 w10 => ?_)
          have w11 : (0 : Int32) ≤ v15 ∧ v15 ≤ (1 : Int32) := w10
          refine ok_ite (fun q12 => ?_) (fun q12 => ?_)
          · have pf13 : "java/lang/UnsupportedOperationException" = "java/lang/IllegalArgumentException" ∨ "java/lang/UnsupportedOperationException" = "java/lang/IndexOutOfBoundsException" ∨ "java/lang/UnsupportedOperationException" = "java/lang/UnsupportedOperationException" := by simp
            exact ok_some ⟨hX, pf13⟩
          · have pf14 : (0 : Int32) ≤ p0 ∧ p0 ≤ (9 : Int32) := by
              have c15 : (0 : Int32) ≤ (X.1 0 0 10) ∧ (X.1 0 0 10) ≤ (10 : Int32) := hX.at1 0 0 10
              exact ⟨by grind, by grind⟩
            refine ok_b1 (s_X6_beltOf X hX p0 pf14 (fun p => a6 p)) (fun X19 v18 w16 => ?_)
            have hX19 : IV A B X19 := w16.1
            have w17 : (0 : Int32) ≤ v18 ∧ v18 ≤ (5 : Int32) := w16.2
            refine ok_lq (fun v21 eq_18 => ?_)
            have pf19 : (0 : Int32) ≤ p0 ∧ p0 ≤ (9 : Int32) := by
              have c20 : (0 : Int32) ≤ (X.1 0 0 10) ∧ (X.1 0 0 10) ≤ (10 : Int32) := hX.at1 0 0 10
              exact ⟨by grind, by grind⟩
            have pf21 : (1 : Int32) ≤ p2 ∧ p2 ≤ (5 : Int32) := by
              exact ⟨by grind, by grind⟩
            have pf22 : (1 : Int32) ≤ v21 ∧ v21 ≤ (6 : Int32) := by
              exact ⟨by grind, by grind⟩
            refine ok_b1 (s_X5_takeVote X19 hX19 i7 p0 pf19 p2 pf21 v21 pf22 (a1 i7) (a2 i7) (a3 i7) (fun p => a4 i7 p) (fun p => a5 i7 p)) (fun X23 v22 w23 => ?_)
            have hX23 : IV A B X23 := w23.1
            have pf24 : (1 : Int32) ≤ v21 ∧ v21 ≤ (6 : Int32) := by
              exact ⟨by grind, by grind⟩
            exact ok_some ⟨hX23, pf24⟩
        · have pf25 : "java/lang/IllegalArgumentException" = "java/lang/IllegalArgumentException" ∨ "java/lang/IllegalArgumentException" = "java/lang/IndexOutOfBoundsException" ∨ "java/lang/IllegalArgumentException" = "java/lang/UnsupportedOperationException" := by simp
          exact ok_some ⟨hX, pf25⟩
    · have w26 : E10 = "java/lang/IndexOutOfBoundsException" := w3
      have pf27 : E10 = "java/lang/IllegalArgumentException" ∨ E10 = "java/lang/IndexOutOfBoundsException" ∨ E10 = "java/lang/UnsupportedOperationException" := by grind
      exact ok_some ⟨hX, pf27⟩
  · have w28 : E4 = "java/lang/IndexOutOfBoundsException" := w1
    have pf29 : E4 = "java/lang/IllegalArgumentException" ∨ E4 = "java/lang/IndexOutOfBoundsException" ∨ E4 = "java/lang/UnsupportedOperationException" := by grind
    exact ok_some ⟨hX, pf29⟩
theorem s_X6_commonDivisor_L7  : ∀ (n : Nat), ∀ (v3 : Int32) (v4 : Int32) (v5 : Int32) (k1 : (Int32 → Option (Int32))), (FU v3 100 n) → ((0 : Int32) ≤ v3 ∧ v3 ≤ (100 : Int32)) → (∀ (k_0 : Int32), ok (k1 k_0) (fun r => True)) → ok (f_X6_commonDivisor_L7 n v3 v4 v5 k1) (fun r => True) := by
  intro n
  induction n with
  | zero =>
    intro v3 v4 v5 k1 hF iv3 hk
    exact (FU.stop hF (show v3 ≤ (100 : Int32) by grind)).elim
  | succ n ih =>
    intro v3 v4 v5 k1 hF iv3 hk
    rw [f_X6_commonDivisor_L7]
    refine ok_ite (fun q1 => ?_) (fun q1 => ?_)
    · exact hk v5
    · refine ok_ite (fun q2 => ?_) (fun q2 => ?_)
      · exact hk v5
      · refine ok_gd ?_ (fun g3 => ?_)
        · grind
        refine ok_lq (fun v9 eq_4 => ?_)
        have pf5 : FU (v3 + (1 : Int32)) 100 n := by
          exact FU.step hF (by grind)
        have pf6 : (0 : Int32) ≤ (v3 + (1 : Int32)) ∧ (v3 + (1 : Int32)) ≤ (100 : Int32) := by
          exact ⟨by grind, by grind⟩
        exact ih (v3 + (1 : Int32)) v9 v4 k1 pf5 pf6 hk
theorem s_X6_commonDivisor (p0 : Int32) (p1 : Int32) : ok (f_X6_commonDivisor p0 p1) (fun r => True) := by
  unfold f_X6_commonDivisor
  have pf1 : FU (0 : Int32) 100 1000 := by
    exact FU.start (by grind) (by decide)
  refine s_X6_commonDivisor_L7 1000 (0 : Int32) p1 p0 _ pf1 (show (0 : Int32) ≤ (0 : Int32) ∧ (0 : Int32) ≤ (100 : Int32) from ⟨by decide, by decide⟩) (fun v2 => ?_)
  exact ok_some trivial
theorem s_X6_style {A : Nat → Nat → Nat → Prop} {B : SS} (X : SS) (hX : IV A B X) (p0 : Int32) (p1 : Int32) : ok (f_X6_style X p0 p1) (fun r => se (fun v => True) (fun E => E = "java/lang/IndexOutOfBoundsException") r) := by
  unfold f_X6_style
  refine ok_e0 (s_X6_workAt X hX p0) (fun i1 w1 => ?_) (fun E4 w1 => ?_)
  · have w2 : ((0 : Int32) ≤ p0 ∧ p0 < (X.1 0 0 11)) := w1
    refine ok_b0 (s_X5_styleAbove X hX i1) (fun v7 w3 => ?_)
    refine ok_b0 (s_X5_styleUnder X hX i1) (fun v9 w4 => ?_)
    refine ok_b0 (s_X6_commonDivisor v7 v9) (fun v11 w5 => ?_)
    refine ok_ite (fun q6 => ?_) (fun q6 => ?_)
    · unfold f_X6_style_J36
      refine ok_ite (fun q7 => ?_) (fun q7 => ?_)
      · refine ok_gd ?_ (fun g8 => ?_)
        · grind
        exact ok_some trivial
      · refine ok_gd ?_ (fun g9 => ?_)
        · grind
        exact ok_some trivial
    · unfold f_X6_style_J36
      refine ok_ite (fun q10 => ?_) (fun q10 => ?_)
      · refine ok_gd ?_ (fun g11 => ?_)
        · grind
        exact ok_some trivial
      · refine ok_gd ?_ (fun g12 => ?_)
        · grind
        exact ok_some trivial
  · have w13 : E4 = "java/lang/IndexOutOfBoundsException" := w1
    have pf14 : E4 = "java/lang/IndexOutOfBoundsException" := by grind
    exact ok_some pf14
theorem s_X6_isReviewedBefore {A : Nat → Nat → Nat → Prop} {B : SS} (X : SS) (hX : IV A B X) (i1 : Nat) (i2 : Nat) : ok (f_X6_isReviewedBefore X i1 i2) (fun r => (0 : Int32) ≤ r ∧ r ≤ (1 : Int32)) := by
  unfold f_X6_isReviewedBefore
  refine ok_ite (fun q1 => ?_) (fun q1 => ?_)
  · refine ok_gd ?_ (fun g2 => ?_)
    · have c3 : (0 : Int32) ≤ (X.1 12 i1 8) ∧ (X.1 12 i1 8) ≤ (7 : Int32) := hX.at1 12 i1 8
      exact vp_of (by decide) (by grind) (show (X.1 12 i1 8) < (8 : Int32) by grind)
    have g2 := vp_to (by decide) g2
    have g2 : (0 : Int32) ≤ (X.1 12 i1 8) ∧ (X.1 12 i1 8) < (8 : Int32) := g2
    refine ok_gd ?_ (fun g4 => ?_)
    · have c5 : (0 : Int32) ≤ (X.1 12 i2 8) ∧ (X.1 12 i2 8) ≤ (7 : Int32) := hX.at1 12 i2 8
      have c6 : (0 : Int32) ≤ (X.1 12 i1 8) ∧ (X.1 12 i1 8) ≤ (7 : Int32) := hX.at1 12 i1 8
      exact vp_of (by decide) (by grind) (show (X.1 12 i2 8) < (8 : Int32) by grind)
    have g4 := vp_to (by decide) g4
    have g4 : (0 : Int32) ≤ (X.1 12 i2 8) ∧ (X.1 12 i2 8) < (8 : Int32) := g4
    refine ok_ite (fun q7 => ?_) (fun q7 => ?_)
    · have pf8 : (0 : Int32) ≤ (0 : Int32) ∧ (0 : Int32) ≤ (1 : Int32) := by
        exact ⟨by grind, by grind⟩
      exact ok_some pf8
    · have pf9 : (0 : Int32) ≤ (1 : Int32) ∧ (1 : Int32) ≤ (1 : Int32) := by
        exact ⟨by grind, by grind⟩
      exact ok_some pf9
  · refine ok_ite (fun q10 => ?_) (fun q10 => ?_)
    · have pf11 : (0 : Int32) ≤ (0 : Int32) ∧ (0 : Int32) ≤ (1 : Int32) := by
        exact ⟨by grind, by grind⟩
      exact ok_some pf11
    · have pf12 : (0 : Int32) ≤ (1 : Int32) ∧ (1 : Int32) ≤ (1 : Int32) := by
        exact ⟨by grind, by grind⟩
      exact ok_some pf12
theorem s_X6_review_J50 {A : Nat → Nat → Nat → Prop} {B : SS} (v9 : Int32) (iv9 : (0 : Int32) ≤ v9 ∧ v9 ≤ (39 : Int32)) (v10 : Int32) (iv10 : ((-1) : Int32) ≤ v10 ∧ v10 ≤ (39 : Int32)) (X : SS) (hX : IV A B X) (v16 : Int32) (iv16 : (0 : Int32) ≤ v16 ∧ v16 ≤ (1 : Int32)) {n : Nat} (rc : Int32 → Int32 → (Int32 → Option ((Int32 ⊕ String))) → Option ((Int32 ⊕ String))) (hrc : ∀ (v9 : Int32) (v10 : Int32) (k7 : (Int32 → Option ((Int32 ⊕ String)))), (FU v9 40 n) → ((0 : Int32) ≤ v9 ∧ v9 ≤ (40 : Int32)) → (((-1) : Int32) ≤ v10 ∧ v10 ≤ (39 : Int32)) → (∀ (k_0 : Int32), (((-1) : Int32) ≤ k_0 ∧ k_0 ≤ (39 : Int32)) → ok (k7 k_0) (fun r => se (fun v => (0 : Int32) ≤ v ∧ v ≤ (39 : Int32)) (fun E => E = "java/lang/IndexOutOfBoundsException" ∨ E = "java/util/NoSuchElementException") r)) → ok (rc v9 v10 k7) (fun r => se (fun v => (0 : Int32) ≤ v ∧ v ≤ (39 : Int32)) (fun E => E = "java/lang/IndexOutOfBoundsException" ∨ E = "java/util/NoSuchElementException") r)) (k7 : Int32 → Option ((Int32 ⊕ String))) (hk : ∀ (k_0 : Int32), (((-1) : Int32) ≤ k_0 ∧ k_0 ≤ (39 : Int32)) → ok (k7 k_0) (fun r => se (fun v => (0 : Int32) ≤ v ∧ v ≤ (39 : Int32)) (fun E => E = "java/lang/IndexOutOfBoundsException" ∨ E = "java/util/NoSuchElementException") r)) (hF : FU v9 40 (n + 1)) : ok (f_X6_review_J50 rc k7 v9 v10 X v16) (fun r => se (fun v => (0 : Int32) ≤ v ∧ v ≤ (39 : Int32)) (fun E => E = "java/lang/IndexOutOfBoundsException" ∨ E = "java/util/NoSuchElementException") r) := by
  unfold f_X6_review_J50
  refine ok_ite (fun q1 => ?_) (fun q1 => ?_)
  · have pf2 : FU (v9 + (1 : Int32)) 40 n := by
      exact FU.step hF (by grind)
    have pf3 : (0 : Int32) ≤ (v9 + (1 : Int32)) ∧ (v9 + (1 : Int32)) ≤ (40 : Int32) := by
      exact ⟨by grind, by grind⟩
    have pf4 : ((-1) : Int32) ≤ v10 ∧ v10 ≤ (39 : Int32) := by
      exact ⟨by grind, by grind⟩
    exact hrc (v9 + (1 : Int32)) v10 k7 pf2 pf3 pf4 hk
  · refine ok_ite (fun q5 => ?_) (fun q5 => ?_)
    · have pf6 : FU (v9 + (1 : Int32)) 40 n := by
        exact FU.step hF (by grind)
      have pf7 : (0 : Int32) ≤ (v9 + (1 : Int32)) ∧ (v9 + (1 : Int32)) ≤ (40 : Int32) := by
        exact ⟨by grind, by grind⟩
      have pf8 : ((-1) : Int32) ≤ v9 ∧ v9 ≤ (39 : Int32) := by
        exact ⟨by grind, by grind⟩
      exact hrc (v9 + (1 : Int32)) v9 k7 pf6 pf7 pf8 hk
    · refine ok_gd ?_ (fun g9 => ?_)
      · exact vp_of (by decide) (by grind) (show v10 < (40 : Int32) by grind)
      have g9 := vp_to (by decide) g9
      have g9 : (0 : Int32) ≤ v10 ∧ v10 < (40 : Int32) := g9
      refine ok_b0 (s_X6_isReviewedBefore X hX (v9).toNatClampNeg (v10).toNatClampNeg) (fun v21 w10 => ?_)
      have w11 : (0 : Int32) ≤ v21 ∧ v21 ≤ (1 : Int32) := w10
      refine ok_ite (fun q12 => ?_) (fun q12 => ?_)
      · have pf13 : FU (v9 + (1 : Int32)) 40 n := by
          exact FU.step hF (by grind)
        have pf14 : (0 : Int32) ≤ (v9 + (1 : Int32)) ∧ (v9 + (1 : Int32)) ≤ (40 : Int32) := by
          exact ⟨by grind, by grind⟩
        have pf15 : ((-1) : Int32) ≤ v10 ∧ v10 ≤ (39 : Int32) := by
          exact ⟨by grind, by grind⟩
        exact hrc (v9 + (1 : Int32)) v10 k7 pf13 pf14 pf15 hk
      · have pf16 : FU (v9 + (1 : Int32)) 40 n := by
          exact FU.step hF (by grind)
        have pf17 : (0 : Int32) ≤ (v9 + (1 : Int32)) ∧ (v9 + (1 : Int32)) ≤ (40 : Int32) := by
          exact ⟨by grind, by grind⟩
        have pf18 : ((-1) : Int32) ≤ v9 ∧ v9 ≤ (39 : Int32) := by
          exact ⟨by grind, by grind⟩
        exact hrc (v9 + (1 : Int32)) v9 k7 pf16 pf17 pf18 hk
theorem s_X6_review_J49 {A : Nat → Nat → Nat → Prop} {B : SS} (v9 : Int32) (iv9 : (0 : Int32) ≤ v9 ∧ v9 ≤ (39 : Int32)) (v10 : Int32) (iv10 : ((-1) : Int32) ≤ v10 ∧ v10 ≤ (39 : Int32)) (X : SS) (hX : IV A B X) {n : Nat} (rc : Int32 → Int32 → (Int32 → Option ((Int32 ⊕ String))) → Option ((Int32 ⊕ String))) (hrc : ∀ (v9 : Int32) (v10 : Int32) (k7 : (Int32 → Option ((Int32 ⊕ String)))), (FU v9 40 n) → ((0 : Int32) ≤ v9 ∧ v9 ≤ (40 : Int32)) → (((-1) : Int32) ≤ v10 ∧ v10 ≤ (39 : Int32)) → (∀ (k_0 : Int32), (((-1) : Int32) ≤ k_0 ∧ k_0 ≤ (39 : Int32)) → ok (k7 k_0) (fun r => se (fun v => (0 : Int32) ≤ v ∧ v ≤ (39 : Int32)) (fun E => E = "java/lang/IndexOutOfBoundsException" ∨ E = "java/util/NoSuchElementException") r)) → ok (rc v9 v10 k7) (fun r => se (fun v => (0 : Int32) ≤ v ∧ v ≤ (39 : Int32)) (fun E => E = "java/lang/IndexOutOfBoundsException" ∨ E = "java/util/NoSuchElementException") r)) (k7 : Int32 → Option ((Int32 ⊕ String))) (hk : ∀ (k_0 : Int32), (((-1) : Int32) ≤ k_0 ∧ k_0 ≤ (39 : Int32)) → ok (k7 k_0) (fun r => se (fun v => (0 : Int32) ≤ v ∧ v ≤ (39 : Int32)) (fun E => E = "java/lang/IndexOutOfBoundsException" ∨ E = "java/util/NoSuchElementException") r)) (hF : FU v9 40 (n + 1)) : ok (f_X6_review_J49 rc k7 v9 v10 X) (fun r => se (fun v => (0 : Int32) ≤ v ∧ v ≤ (39 : Int32)) (fun E => E = "java/lang/IndexOutOfBoundsException" ∨ E = "java/util/NoSuchElementException") r) := by
  unfold f_X6_review_J49
  have pf1 : (0 : Int32) ≤ v9 ∧ v9 ≤ (39 : Int32) := by
    exact ⟨by grind, by grind⟩
  have pf2 : ((-1) : Int32) ≤ v10 ∧ v10 ≤ (39 : Int32) := by
    exact ⟨by grind, by grind⟩
  exact s_X6_review_J50 v9 pf1 v10 pf2 X hX (0 : Int32) (show (0 : Int32) ≤ (0 : Int32) ∧ (0 : Int32) ≤ (1 : Int32) from ⟨by decide, by decide⟩) rc hrc k7 hk hF
theorem s_X6_review_L10 {A : Nat → Nat → Nat → Prop} {B : SS} (X : SS) (hX : IV A B X) (p0 : Int32) (ip0 : (0 : Int32) ≤ p0 ∧ p0 ≤ (9 : Int32)) : ∀ (n : Nat), ∀ (v9 : Int32) (v10 : Int32) (k7 : (Int32 → Option ((Int32 ⊕ String)))), (FU v9 40 n) → ((0 : Int32) ≤ v9 ∧ v9 ≤ (40 : Int32)) → (((-1) : Int32) ≤ v10 ∧ v10 ≤ (39 : Int32)) → (∀ (k_0 : Int32), (((-1) : Int32) ≤ k_0 ∧ k_0 ≤ (39 : Int32)) → ok (k7 k_0) (fun r => se (fun v => (0 : Int32) ≤ v ∧ v ≤ (39 : Int32)) (fun E => E = "java/lang/IndexOutOfBoundsException" ∨ E = "java/util/NoSuchElementException") r)) → ok (f_X6_review_L10 X p0 n v9 v10 k7) (fun r => se (fun v => (0 : Int32) ≤ v ∧ v ≤ (39 : Int32)) (fun E => E = "java/lang/IndexOutOfBoundsException" ∨ E = "java/util/NoSuchElementException") r) := by
  intro n
  induction n with
  | zero =>
    intro v9 v10 k7 hF iv9 iv10 hk
    exact (FU.stop hF (show v9 ≤ (40 : Int32) by grind)).elim
  | succ n ih =>
    intro v9 v10 k7 hF iv9 iv10 hk
    rw [f_X6_review_L10]
    refine ok_ite (fun q1 => ?_) (fun q1 => ?_)
    · have pf2 : ((-1) : Int32) ≤ v10 ∧ v10 ≤ (39 : Int32) := by
        exact ⟨by grind, by grind⟩
      exact hk v10 pf2
    · refine ok_gd ?_ (fun g3 => ?_)
      · have c4 : (0 : Int32) ≤ (X.1 0 0 11) ∧ (X.1 0 0 11) ≤ (40 : Int32) := hX.at1 0 0 11
        exact vp_of (by decide) (by grind) (show v9 < (40 : Int32) by grind)
      have g3 := vp_to (by decide) g3
      have g3 : (0 : Int32) ≤ v9 ∧ v9 < (40 : Int32) := g3
      have pf5 : (0 : Int32) ≤ p0 ∧ p0 ≤ (9 : Int32) := by
        exact ⟨by grind, by grind⟩
      refine ok_b0 (s_X6_isOpenToVoteOf X hX p0 pf5 (v9).toNatClampNeg) (fun v14 w6 => ?_)
      have w7 : (0 : Int32) ≤ v14 ∧ v14 ≤ (1 : Int32) := w6
      refine ok_ite (fun q8 => ?_) (fun q8 => ?_)
      · have pf9 : (0 : Int32) ≤ v9 ∧ v9 ≤ (39 : Int32) := by
          have c10 : (0 : Int32) ≤ (X.1 0 0 11) ∧ (X.1 0 0 11) ≤ (40 : Int32) := hX.at1 0 0 11
          exact ⟨by grind, by grind⟩
        have pf11 : ((-1) : Int32) ≤ v10 ∧ v10 ≤ (39 : Int32) := by
          exact ⟨by grind, by grind⟩
        exact s_X6_review_J49 v9 pf9 v10 pf11 X hX (f_X6_review_L10 X p0 n) ih k7 hk hF
      · refine ok_gd ?_ (fun g12 => ?_)
        · exact vp_of (by decide) (by grind) (show p0 < (10 : Int32) by grind)
        have g12 := vp_to (by decide) g12
        have g12 : (0 : Int32) ≤ p0 ∧ p0 < (10 : Int32) := g12
        refine ok_ite (fun q13 => ?_) (fun q13 => ?_)
        · have pf14 : (0 : Int32) ≤ v9 ∧ v9 ≤ (39 : Int32) := by
            have c15 : (0 : Int32) ≤ (X.1 0 0 11) ∧ (X.1 0 0 11) ≤ (40 : Int32) := hX.at1 0 0 11
            exact ⟨by grind, by grind⟩
          have pf16 : ((-1) : Int32) ≤ v10 ∧ v10 ≤ (39 : Int32) := by
            exact ⟨by grind, by grind⟩
          exact s_X6_review_J50 v9 pf14 v10 pf16 X hX (1 : Int32) (show (0 : Int32) ≤ (1 : Int32) ∧ (1 : Int32) ≤ (1 : Int32) from ⟨by decide, by decide⟩) (f_X6_review_L10 X p0 n) ih k7 hk hF
        · have pf17 : (0 : Int32) ≤ v9 ∧ v9 ≤ (39 : Int32) := by
            have c18 : (0 : Int32) ≤ (X.1 0 0 11) ∧ (X.1 0 0 11) ≤ (40 : Int32) := hX.at1 0 0 11
            exact ⟨by grind, by grind⟩
          have pf19 : ((-1) : Int32) ≤ v10 ∧ v10 ≤ (39 : Int32) := by
            exact ⟨by grind, by grind⟩
          exact s_X6_review_J49 v9 pf17 v10 pf19 X hX (f_X6_review_L10 X p0 n) ih k7 hk hF
theorem s_X6_review {A : Nat → Nat → Nat → Prop} {B : SS} (X : SS) (hX : IV A B X) (p0 : Int32) : ok (f_X6_review X p0) (fun r => se (fun v => (0 : Int32) ≤ v ∧ v ≤ (39 : Int32)) (fun E => E = "java/lang/IndexOutOfBoundsException" ∨ E = "java/util/NoSuchElementException") r) := by
  unfold f_X6_review
  refine ok_e0 (s_X6_memberAt X hX p0) (fun i1 w1 => ?_) (fun E4 w1 => ?_)
  · have ni1 : i1 < 10 := w1.1
    have w2 : ((0 : Int32) ≤ p0 ∧ p0 < (X.1 0 0 10)) := w1.2
    have pf3 : (0 : Int32) ≤ p0 ∧ p0 ≤ (9 : Int32) := by
      have c4 : (0 : Int32) ≤ (X.1 0 0 10) ∧ (X.1 0 0 10) ≤ (10 : Int32) := hX.at1 0 0 10
      exact ⟨by grind, by grind⟩
    have pf5 : FU (0 : Int32) 40 1000 := by
      exact FU.start (by grind) (by decide)
    refine s_X6_review_L10 X hX p0 pf3 1000 (0 : Int32) ((-1) : Int32) _ pf5 (show (0 : Int32) ≤ (0 : Int32) ∧ (0 : Int32) ≤ (40 : Int32) from ⟨by decide, by decide⟩) (show ((-1) : Int32) ≤ ((-1) : Int32) ∧ ((-1) : Int32) ≤ (39 : Int32) from ⟨by decide, by decide⟩) (fun v8 wv8 => ?_)
    have wv8 : ((-1) : Int32) ≤ v8 ∧ v8 ≤ (39 : Int32) := wv8
    refine ok_ite (fun q6 => ?_) (fun q6 => ?_)
    · have pf7 : "java/util/NoSuchElementException" = "java/lang/IndexOutOfBoundsException" ∨ "java/util/NoSuchElementException" = "java/util/NoSuchElementException" := by simp
      exact ok_some pf7
    · have pf8 : (0 : Int32) ≤ v8 ∧ v8 ≤ (39 : Int32) := by
        exact ⟨by grind, by grind⟩
      exact ok_some pf8
  · have w9 : E4 = "java/lang/IndexOutOfBoundsException" := w1
    have pf10 : E4 = "java/lang/IndexOutOfBoundsException" ∨ E4 = "java/util/NoSuchElementException" := by grind
    exact ok_some pf10
theorem s_X6_best {A : Nat → Nat → Nat → Prop} {B : SS} (X : SS) (hX : IV A B X) (p0 : Int32) (p1 : Int32) (a1 : ∀ p, A 25 0 p) : ok (f_X6_best X p0 p1) (fun r => IV A B r.1 ∧ se (fun v => (0 : Int32) ≤ v ∧ v ≤ (39 : Int32)) (fun E => E = "java/lang/IndexOutOfBoundsException" ∨ E = "java/util/NoSuchElementException") r.2) := by
  unfold f_X6_best
  refine ok_e0 (s_X6_memberAt X hX p0) (fun i1 w1 => ?_) (fun E4 w1 => ?_)
  · have ni1 : i1 < 10 := w1.1
    have w2 : ((0 : Int32) ≤ p0 ∧ p0 < (X.1 0 0 10)) := w1.2
    refine ok_e0 (s_X6_kataAt X hX p1) (fun i7 w3 => ?_) (fun E10 w3 => ?_)
    · have w4 : ((0 : Int32) ≤ p1 ∧ p1 < (X.1 0 0 9)) := w3
      have pf5 : (0 : Int32) ≤ p0 ∧ p0 ≤ (9 : Int32) := by
        have c6 : (0 : Int32) ≤ (X.1 0 0 10) ∧ (X.1 0 0 10) ≤ (10 : Int32) := hX.at1 0 0 10
        exact ⟨by grind, by grind⟩
      refine ok_b1 (s_X6_takeWorks X hX p0 pf5 (fun p => a1 p)) (fun X14 v13 w7 => ?_)
      have hX14 : IV A B X14 := w7.1
      refine ok_gd ?_ (fun g8 => ?_)
      · have c9 : (0 : Int32) ≤ (X.1 0 0 9) ∧ (X.1 0 0 9) ≤ (8 : Int32) := hX.at1 0 0 9
        exact vp_of (by decide) (by grind) (show p1 < (8 : Int32) by grind)
      have g8 := vp_to (by decide) g8
      have g8 : (0 : Int32) ≤ p1 ∧ p1 < (8 : Int32) := g8
      refine ok_ite (fun q10 => ?_) (fun q10 => ?_)
      · have pf11 : "java/util/NoSuchElementException" = "java/lang/IndexOutOfBoundsException" ∨ "java/util/NoSuchElementException" = "java/util/NoSuchElementException" := by simp
        exact ok_some ⟨hX14, pf11⟩
      · refine ok_gd ?_ (fun g12 => ?_)
        · have c13 : (0 : Int32) ≤ (X.1 0 0 9) ∧ (X.1 0 0 9) ≤ (8 : Int32) := hX.at1 0 0 9
          have c14 : ((-1) : Int32) ≤ (X14.1 25 0 (p1).toNatClampNeg) ∧ (X14.1 25 0 (p1).toNatClampNeg) ≤ (39 : Int32) := hX14.at1 25 0 ((p1).toNatClampNeg)
          exact vp_of (by decide) (by grind) (show p1 < (8 : Int32) by grind)
        have g12 := vp_to (by decide) g12
        have g12 : (0 : Int32) ≤ p1 ∧ p1 < (8 : Int32) := g12
        have pf15 : (0 : Int32) ≤ (X14.1 25 0 (p1).toNatClampNeg) ∧ (X14.1 25 0 (p1).toNatClampNeg) ≤ (39 : Int32) := by
          have c16 : ((-1) : Int32) ≤ (X14.1 25 0 (p1).toNatClampNeg) ∧ (X14.1 25 0 (p1).toNatClampNeg) ≤ (39 : Int32) := hX14.at1 25 0 ((p1).toNatClampNeg)
          have c17 : (0 : Int32) ≤ (X.1 0 0 9) ∧ (X.1 0 0 9) ≤ (8 : Int32) := hX.at1 0 0 9
          exact ⟨by grind, by grind⟩
        exact ok_some ⟨hX14, pf15⟩
    · have w18 : E10 = "java/lang/IndexOutOfBoundsException" := w3
      have pf19 : E10 = "java/lang/IndexOutOfBoundsException" ∨ E10 = "java/util/NoSuchElementException" := by grind
      exact ok_some ⟨hX, pf19⟩
  · have w20 : E4 = "java/lang/IndexOutOfBoundsException" := w1
    have pf21 : E4 = "java/lang/IndexOutOfBoundsException" ∨ E4 = "java/util/NoSuchElementException" := by grind
    exact ok_some ⟨hX, pf21⟩
theorem s_X6_pointsOf {A : Nat → Nat → Nat → Prop} {B : SS} (X : SS) (hX : IV A B X) (p0 : Int32) (ip0 : (0 : Int32) ≤ p0 ∧ p0 ≤ (9 : Int32)) (a1 : ∀ p, A 25 0 p) : ok (f_X6_pointsOf X p0) (fun r => IV A B r.1 ∧ vf_n32 r.2) := by
  unfold f_X6_pointsOf
  have pf1 : (0 : Int32) ≤ p0 ∧ p0 ≤ (9 : Int32) := by
    exact ⟨by grind, by grind⟩
  refine ok_b1 (s_X6_takeWorks X hX p0 pf1 (fun p => a1 p)) (fun X2 v1 w2 => ?_)
  have hX2 : IV A B X2 := w2.1
  refine ok_b0 (s_X6_takenPoints X2 hX2) (fun v4 w3 => ?_)
  have nv4 : vf_n32 v4 := w3
  exact ok_some ⟨hX2, nv4⟩
theorem s_X6_points {A : Nat → Nat → Nat → Prop} {B : SS} (X : SS) (hX : IV A B X) (p0 : Int32) (a1 : ∀ p, A 25 0 p) : ok (f_X6_points X p0) (fun r => IV A B r.1 ∧ se (fun v => vf_n32 v) (fun E => E = "java/lang/IndexOutOfBoundsException") r.2) := by
  unfold f_X6_points
  refine ok_e0 (s_X6_memberAt X hX p0) (fun i1 w1 => ?_) (fun E4 w1 => ?_)
  · have ni1 : i1 < 10 := w1.1
    have w2 : ((0 : Int32) ≤ p0 ∧ p0 < (X.1 0 0 10)) := w1.2
    have pf3 : (0 : Int32) ≤ p0 ∧ p0 ≤ (9 : Int32) := by
      have c4 : (0 : Int32) ≤ (X.1 0 0 10) ∧ (X.1 0 0 10) ≤ (10 : Int32) := hX.at1 0 0 10
      exact ⟨by grind, by grind⟩
    refine ok_b1 (s_X6_pointsOf X hX p0 pf3 (fun p => a1 p)) (fun X8 v7 w5 => ?_)
    have hX8 : IV A B X8 := w5.1
    have nv7 : vf_n32 v7 := w5.2
    exact ok_some ⟨hX8, nv7⟩
  · have w6 : E4 = "java/lang/IndexOutOfBoundsException" := w1
    have pf7 : E4 = "java/lang/IndexOutOfBoundsException" := by grind
    exact ok_some ⟨hX, pf7⟩
theorem s_X6_belt {A : Nat → Nat → Nat → Prop} {B : SS} (X : SS) (hX : IV A B X) (p0 : Int32) (a1 : ∀ p, A 25 0 p) : ok (f_X6_belt X p0) (fun r => IV A B r.1 ∧ se (fun v => (0 : Int32) ≤ v ∧ v ≤ (5 : Int32)) (fun E => E = "java/lang/IndexOutOfBoundsException") r.2) := by
  unfold f_X6_belt
  refine ok_e0 (s_X6_memberAt X hX p0) (fun i1 w1 => ?_) (fun E4 w1 => ?_)
  · have ni1 : i1 < 10 := w1.1
    have w2 : ((0 : Int32) ≤ p0 ∧ p0 < (X.1 0 0 10)) := w1.2
    have pf3 : (0 : Int32) ≤ p0 ∧ p0 ≤ (9 : Int32) := by
      have c4 : (0 : Int32) ≤ (X.1 0 0 10) ∧ (X.1 0 0 10) ≤ (10 : Int32) := hX.at1 0 0 10
      exact ⟨by grind, by grind⟩
    refine ok_b1 (s_X6_beltOf X hX p0 pf3 (fun p => a1 p)) (fun X8 v7 w5 => ?_)
    have hX8 : IV A B X8 := w5.1
    have w6 : (0 : Int32) ≤ v7 ∧ v7 ≤ (5 : Int32) := w5.2
    have pf7 : (0 : Int32) ≤ v7 ∧ v7 ≤ (5 : Int32) := by
      exact ⟨by grind, by grind⟩
    exact ok_some ⟨hX8, pf7⟩
  · have w8 : E4 = "java/lang/IndexOutOfBoundsException" := w1
    have pf9 : E4 = "java/lang/IndexOutOfBoundsException" := by grind
    exact ok_some ⟨hX, pf9⟩
theorem s_X6_honour {A : Nat → Nat → Nat → Prop} {B : SS} (X : SS) (hX : IV A B X) (p0 : Int32) : ok (f_X6_honour X p0) (fun r => se (fun v => True) (fun E => E = "java/lang/IndexOutOfBoundsException") r) := by
  unfold f_X6_honour
  refine ok_e0 (s_X6_memberAt X hX p0) (fun i1 w1 => ?_) (fun E4 w1 => ?_)
  · have ni1 : i1 < 10 := w1.1
    have w2 : ((0 : Int32) ≤ p0 ∧ p0 < (X.1 0 0 10)) := w1.2
    exact ok_some trivial
  · have w3 : E4 = "java/lang/IndexOutOfBoundsException" := w1
    have pf4 : E4 = "java/lang/IndexOutOfBoundsException" := by grind
    exact ok_some pf4
theorem s_X6_isRankedBefore {A : Nat → Nat → Nat → Prop} {B : SS} (X : SS) (hX : IV A B X) (p0 : Int32) (ip0 : (0 : Int32) ≤ p0 ∧ p0 ≤ (9 : Int32)) (p1 : Int32) (ip1 : (0 : Int32) ≤ p1 ∧ p1 ≤ (9 : Int32)) (a1 : ∀ p, A 25 0 p) : ok (f_X6_isRankedBefore X p0 p1) (fun r => IV A B r.1 ∧ (0 : Int32) ≤ r.2 ∧ r.2 ≤ (1 : Int32)) := by
  unfold f_X6_isRankedBefore
  have pf1 : (0 : Int32) ≤ p0 ∧ p0 ≤ (9 : Int32) := by
    exact ⟨by grind, by grind⟩
  refine ok_b1 (s_X6_beltOf X hX p0 pf1 (fun p => a1 p)) (fun X2 v1 w2 => ?_)
  have hX2 : IV A B X2 := w2.1
  have w3 : (0 : Int32) ≤ v1 ∧ v1 ≤ (5 : Int32) := w2.2
  have pf4 : (0 : Int32) ≤ p1 ∧ p1 ≤ (9 : Int32) := by
    exact ⟨by grind, by grind⟩
  refine ok_b1 (s_X6_beltOf X2 hX2 p1 pf4 (fun p => a1 p)) (fun X5 v4 w5 => ?_)
  have hX5 : IV A B X5 := w5.1
  have w6 : (0 : Int32) ≤ v4 ∧ v4 ≤ (5 : Int32) := w5.2
  refine ok_ite (fun q7 => ?_) (fun q7 => ?_)
  · have pf8 : (0 : Int32) ≤ p0 ∧ p0 ≤ (9 : Int32) := by
      exact ⟨by grind, by grind⟩
    refine ok_b1 (s_X6_pointsOf X5 hX5 p0 pf8 (fun p => a1 p)) (fun X9 v8 w9 => ?_)
    have hX9 : IV A B X9 := w9.1
    have nv8 : vf_n32 v8 := w9.2
    have pf10 : (0 : Int32) ≤ p1 ∧ p1 ≤ (9 : Int32) := by
      exact ⟨by grind, by grind⟩
    refine ok_b1 (s_X6_pointsOf X9 hX9 p1 pf10 (fun p => a1 p)) (fun X12 v11 w11 => ?_)
    have hX12 : IV A B X12 := w11.1
    have nv11 : vf_n32 v11 := w11.2
    refine ok_ite (fun q12 => ?_) (fun q12 => ?_)
    · refine ok_ite (fun q13 => ?_) (fun q13 => ?_)
      · have pf14 : (0 : Int32) ≤ (0 : Int32) ∧ (0 : Int32) ≤ (1 : Int32) := by
          exact ⟨by grind, by grind⟩
        exact ok_some ⟨hX12, pf14⟩
      · have pf15 : (0 : Int32) ≤ (1 : Int32) ∧ (1 : Int32) ≤ (1 : Int32) := by
          exact ⟨by grind, by grind⟩
        exact ok_some ⟨hX12, pf15⟩
    · refine ok_ite (fun q16 => ?_) (fun q16 => ?_)
      · have pf17 : (0 : Int32) ≤ (0 : Int32) ∧ (0 : Int32) ≤ (1 : Int32) := by
          exact ⟨by grind, by grind⟩
        exact ok_some ⟨hX12, pf17⟩
      · have pf18 : (0 : Int32) ≤ (1 : Int32) ∧ (1 : Int32) ≤ (1 : Int32) := by
          exact ⟨by grind, by grind⟩
        exact ok_some ⟨hX12, pf18⟩
  · refine ok_ite (fun q19 => ?_) (fun q19 => ?_)
    · have pf20 : (0 : Int32) ≤ (0 : Int32) ∧ (0 : Int32) ≤ (1 : Int32) := by
        exact ⟨by grind, by grind⟩
      exact ok_some ⟨hX5, pf20⟩
    · have pf21 : (0 : Int32) ≤ (1 : Int32) ∧ (1 : Int32) ≤ (1 : Int32) := by
        exact ⟨by grind, by grind⟩
      exact ok_some ⟨hX5, pf21⟩
theorem s_X6_ranked_L15 {A : Nat → Nat → Nat → Prop} {B : SS} (v3 : Int32) (iv3 : (0 : Int32) ≤ v3 ∧ v3 ≤ (9 : Int32)) (a1 : ∀ p, A 25 0 p) : ∀ (n : Nat), ∀ (v9 : Int32) (v10 : Int32) (X11 : SS) (k6 : (Int32 → SS → Option (SS × (Int32 ⊕ String)))), (FU v9 10 n) → ((0 : Int32) ≤ v9 ∧ v9 ≤ (10 : Int32)) → (IV A B X11) → (∀ (k_0 : Int32) (k_1 : SS), (IV A B k_1) → ok (k6 k_0 k_1) (fun r => IV A B r.1 ∧ se (fun v => (0 : Int32) ≤ v ∧ v ≤ (9 : Int32)) (fun E => E = "java/util/NoSuchElementException") r.2)) → ok (f_X6_ranked_L15 v3 n v9 v10 X11 k6) (fun r => IV A B r.1 ∧ se (fun v => (0 : Int32) ≤ v ∧ v ≤ (9 : Int32)) (fun E => E = "java/util/NoSuchElementException") r.2) := by
  intro n
  induction n with
  | zero =>
    intro v9 v10 X11 k6 hF iv9 hX11 hk
    exact (FU.stop hF (show v9 ≤ (10 : Int32) by grind)).elim
  | succ n ih =>
    intro v9 v10 X11 k6 hF iv9 hX11 hk
    rw [f_X6_ranked_L15]
    refine ok_ite (fun q1 => ?_) (fun q1 => ?_)
    · exact hk v10 X11 hX11
    · have pf2 : (0 : Int32) ≤ v9 ∧ v9 ≤ (9 : Int32) := by
        have c3 : (0 : Int32) ≤ (X11.1 0 0 10) ∧ (X11.1 0 0 10) ≤ (10 : Int32) := hX11.at1 0 0 10
        exact ⟨by grind, by grind⟩
      have pf4 : (0 : Int32) ≤ v3 ∧ v3 ≤ (9 : Int32) := by
        exact ⟨by grind, by grind⟩
      refine ok_b1 (s_X6_isRankedBefore X11 hX11 v9 pf2 v3 pf4 (fun p => a1 p)) (fun X15 v14 w5 => ?_)
      have hX15 : IV A B X15 := w5.1
      have w6 : (0 : Int32) ≤ v14 ∧ v14 ≤ (1 : Int32) := w5.2
      refine ok_ite (fun q7 => ?_) (fun q7 => ?_)
      · refine ok_lq (fun v18 eq_8 => ?_)
        have pf9 : FU (v9 + (1 : Int32)) 10 n := by
          have c10 : (0 : Int32) ≤ (X11.1 0 0 10) ∧ (X11.1 0 0 10) ≤ (10 : Int32) := hX11.at1 0 0 10
          exact FU.step hF (by grind)
        have pf11 : (0 : Int32) ≤ (v9 + (1 : Int32)) ∧ (v9 + (1 : Int32)) ≤ (10 : Int32) := by
          have c12 : (0 : Int32) ≤ (X11.1 0 0 10) ∧ (X11.1 0 0 10) ≤ (10 : Int32) := hX11.at1 0 0 10
          exact ⟨by grind, by grind⟩
        exact ih (v9 + (1 : Int32)) v18 X15 k6 pf9 pf11 hX15 hk
      · refine ok_lq (fun v19 eq_13 => ?_)
        have pf14 : FU (v9 + (1 : Int32)) 10 n := by
          have c15 : (0 : Int32) ≤ (X11.1 0 0 10) ∧ (X11.1 0 0 10) ≤ (10 : Int32) := hX11.at1 0 0 10
          exact FU.step hF (by grind)
        have pf16 : (0 : Int32) ≤ (v9 + (1 : Int32)) ∧ (v9 + (1 : Int32)) ≤ (10 : Int32) := by
          have c17 : (0 : Int32) ≤ (X11.1 0 0 10) ∧ (X11.1 0 0 10) ≤ (10 : Int32) := hX11.at1 0 0 10
          exact ⟨by grind, by grind⟩
        exact ih (v9 + (1 : Int32)) v19 X15 k6 pf14 pf16 hX15 hk
theorem s_X6_ranked_L2 {A : Nat → Nat → Nat → Prop} {B : SS} (p0 : Int32) (a1 : ∀ p, A 25 0 p) : ∀ (n : Nat), ∀ (v3 : Int32) (X4 : SS) (k1 : (SS → Option (SS × (Int32 ⊕ String)))), (FU v3 10 n) → ((0 : Int32) ≤ v3 ∧ v3 ≤ (10 : Int32)) → (IV A B X4) → (∀ (k_0 : SS), (IV A B k_0) → ok (k1 k_0) (fun r => IV A B r.1 ∧ se (fun v => (0 : Int32) ≤ v ∧ v ≤ (9 : Int32)) (fun E => E = "java/util/NoSuchElementException") r.2)) → ok (f_X6_ranked_L2 p0 n v3 X4 k1) (fun r => IV A B r.1 ∧ se (fun v => (0 : Int32) ≤ v ∧ v ≤ (9 : Int32)) (fun E => E = "java/util/NoSuchElementException") r.2) := by
  intro n
  induction n with
  | zero =>
    intro v3 X4 k1 hF iv3 hX4 hk
    exact (FU.stop hF (show v3 ≤ (10 : Int32) by grind)).elim
  | succ n ih =>
    intro v3 X4 k1 hF iv3 hX4 hk
    rw [f_X6_ranked_L2]
    refine ok_ite (fun q1 => ?_) (fun q1 => ?_)
    · exact hk X4 hX4
    · have pf2 : (0 : Int32) ≤ v3 ∧ v3 ≤ (9 : Int32) := by
        have c3 : (0 : Int32) ≤ (X4.1 0 0 10) ∧ (X4.1 0 0 10) ≤ (10 : Int32) := hX4.at1 0 0 10
        exact ⟨by grind, by grind⟩
      have pf4 : FU (0 : Int32) 10 1000 := by
        exact FU.start (by grind) (by decide)
      refine s_X6_ranked_L15 v3 pf2 (fun p => a1 p) 1000 (0 : Int32) (0 : Int32) X4 _ pf4 (show (0 : Int32) ≤ (0 : Int32) ∧ (0 : Int32) ≤ (10 : Int32) from ⟨by decide, by decide⟩) hX4 (fun v7 X8 hX8 => ?_)
      refine ok_ite (fun q5 => ?_) (fun q5 => ?_)
      · have pf6 : (0 : Int32) ≤ v3 ∧ v3 ≤ (9 : Int32) := by
          have c7 : (0 : Int32) ≤ (X4.1 0 0 10) ∧ (X4.1 0 0 10) ≤ (10 : Int32) := hX4.at1 0 0 10
          exact ⟨by grind, by grind⟩
        exact ok_some ⟨hX8, pf6⟩
      · have pf8 : FU (v3 + (1 : Int32)) 10 n := by
          have c9 : (0 : Int32) ≤ (X4.1 0 0 10) ∧ (X4.1 0 0 10) ≤ (10 : Int32) := hX4.at1 0 0 10
          exact FU.step hF (by grind)
        have pf10 : (0 : Int32) ≤ (v3 + (1 : Int32)) ∧ (v3 + (1 : Int32)) ≤ (10 : Int32) := by
          have c11 : (0 : Int32) ≤ (X4.1 0 0 10) ∧ (X4.1 0 0 10) ≤ (10 : Int32) := hX4.at1 0 0 10
          exact ⟨by grind, by grind⟩
        exact ih (v3 + (1 : Int32)) X8 k1 pf8 pf10 hX8 hk
theorem s_X6_ranked {A : Nat → Nat → Nat → Prop} {B : SS} (X : SS) (hX : IV A B X) (p0 : Int32) (a1 : ∀ p, A 25 0 p) : ok (f_X6_ranked X p0) (fun r => IV A B r.1 ∧ se (fun v => (0 : Int32) ≤ v ∧ v ≤ (9 : Int32)) (fun E => E = "java/util/NoSuchElementException") r.2) := by
  unfold f_X6_ranked
  have pf1 : FU (0 : Int32) 10 1000 := by
    exact FU.start (by grind) (by decide)
  refine s_X6_ranked_L2 p0 (fun p => a1 p) 1000 (0 : Int32) X _ pf1 (show (0 : Int32) ≤ (0 : Int32) ∧ (0 : Int32) ≤ (10 : Int32) from ⟨by decide, by decide⟩) hX (fun X2 hX2 => ?_)
  have pf2 : "java/util/NoSuchElementException" = "java/util/NoSuchElementException" := by simp
  exact ok_some ⟨hX2, pf2⟩
theorem s_X6_challenge {A : Nat → Nat → Nat → Prop} {B : SS} (X : SS) (hX : IV A B X) (p0 : Int32) (p1 : Int32) (a1 : A 0 0 12) (a2 : ∀ j, A 12 j 11) (a3 : ∀ j, A 12 j 15) (a4 : ∀ j, A 12 j 16) (a5 : ∀ p, A 24 0 p) (a6 : ∀ j, A 9 j 3) : ok (f_X6_challenge X p0 p1) (fun r => IV A B r.1 ∧ se (fun v => (0 : Int32) ≤ v ∧ v ≤ (8 : Int32)) (fun E => E = "java/lang/IllegalStateException" ∨ E = "java/lang/IndexOutOfBoundsException" ∨ E = "java/lang/UnsupportedOperationException") r.2) := by
  unfold f_X6_challenge
  refine ok_e0 (s_X6_memberAt X hX p0) (fun i1 w1 => ?_) (fun E4 w1 => ?_)
  · have ni1 : i1 < 10 := w1.1
    have w2 : ((0 : Int32) ≤ p0 ∧ p0 < (X.1 0 0 10)) := w1.2
    refine ok_e0 (s_X6_workAt X hX p1) (fun i7 w3 => ?_) (fun E10 w3 => ?_)
    · have w4 : ((0 : Int32) ≤ p1 ∧ p1 < (X.1 0 0 11)) := w3
      refine ok_ite (fun q5 => ?_) (fun q5 => ?_)
      · have pf6 : "java/lang/UnsupportedOperationException" = "java/lang/IllegalStateException" ∨ "java/lang/UnsupportedOperationException" = "java/lang/IndexOutOfBoundsException" ∨ "java/lang/UnsupportedOperationException" = "java/lang/UnsupportedOperationException" := by simp
        exact ok_some ⟨hX, pf6⟩
      · refine ok_ite (fun q7 => ?_) (fun q7 => ?_)
        · refine ok_ite (fun q8 => ?_) (fun q8 => ?_)
          · refine ok_ite (fun q9 => ?_) (fun q9 => ?_)
            · refine ok_lq (fun X17 eq_10 => ?_)
              have hX17 : IV A B X17 := by rw [eq_10]; exact hX.w1f rfl (a6 i1) rfl
              refine ok_lq (fun X18 eq_11 => ?_)
              have hX18 : IV A B X18 := by rw [eq_11]; exact hX17.w1 rfl (a2 i7) (show (0 : Int32) ≤ (99 : Int32) ∧ (99 : Int32) ≤ (65535 : Int32) from ⟨by decide, by decide⟩)
              refine ok_lq (fun X19 eq_12 => ?_)
              have pf13 : (0 : Int32) ≤ p0 ∧ p0 ≤ (9 : Int32) := by
                have c14 : (0 : Int32) ≤ (X.1 0 0 10) ∧ (X.1 0 0 10) ≤ (10 : Int32) := hX.at1 0 0 10
                have c15 : (0 : Int32) ≤ (X.1 12 i7 7) ∧ (X.1 12 i7 7) ≤ (9 : Int32) := hX.at1 12 i7 7
                have c16 : (0 : Int32) ≤ (X.1 12 i7 11) ∧ (X.1 12 i7 11) ≤ (65535 : Int32) := hX.at1 12 i7 11
                exact ⟨by grind, by grind⟩
              have hX19 : IV A B X19 := by rw [eq_12]; exact hX18.w1 rfl (a3 i7) pf13
              refine ok_lq (fun X20 eq_17 => ?_)
              have hX20 : IV A B X20 := by rw [eq_17]; exact hX19.w1f rfl (a4 i7) rfl
              refine ok_gd ?_ (fun g18 => ?_)
              · have c19 : (0 : Int32) ≤ (X20.1 0 0 12) ∧ (X20.1 0 0 12) ≤ (8 : Int32) := hX20.at1 0 0 12
                have c20 : (X20.1 0 0 12) = (X19.1 0 0 12) := by rw [eq_17]; exact up_k (by decide)
                have c21 : (0 : Int32) ≤ (X19.1 0 0 12) ∧ (X19.1 0 0 12) ≤ (8 : Int32) := hX19.at1 0 0 12
                have c22 : (X19.1 0 0 12) = (X18.1 0 0 12) := by rw [eq_12]; exact up_k (by decide)
                have c23 : (0 : Int32) ≤ (X18.1 0 0 12) ∧ (X18.1 0 0 12) ≤ (8 : Int32) := hX18.at1 0 0 12
                have c24 : (X18.1 0 0 12) = (X17.1 0 0 12) := by rw [eq_11]; exact up_k (by decide)
                have c25 : (0 : Int32) ≤ (X17.1 0 0 12) ∧ (X17.1 0 0 12) ≤ (8 : Int32) := hX17.at1 0 0 12
                have c26 : (X17.1 0 0 12) = (X.1 0 0 12) := by rw [eq_10]; exact up_k (by decide)
                have c27 : (0 : Int32) ≤ (X.1 0 0 12) ∧ (X.1 0 0 12) ≤ (8 : Int32) := hX.at1 0 0 12
                exact vp_of (by decide) (by grind) (show (X20.1 0 0 12) < (8 : Int32) by grind)
              have g18 := vp_to (by decide) g18
              have g18 : (0 : Int32) ≤ (X20.1 0 0 12) ∧ (X20.1 0 0 12) < (8 : Int32) := g18
              refine ok_lq (fun X22 eq_28 => ?_)
              have pf29 : (0 : Int32) ≤ p1 ∧ p1 ≤ (39 : Int32) := by
                have c30 : (0 : Int32) ≤ (X.1 0 0 11) ∧ (X.1 0 0 11) ≤ (40 : Int32) := hX.at1 0 0 11
                exact ⟨by grind, by grind⟩
              have hX22 : IV A B X22 := by rw [eq_28]; exact hX20.w1 rfl (a5 (((X20.1 0 0 12)).toNatClampNeg)) pf29
              refine ok_lq (fun X23 eq_31 => ?_)
              have pf32 : (0 : Int32) ≤ ((X22.1 0 0 12) + (1 : Int32)) ∧ ((X22.1 0 0 12) + (1 : Int32)) ≤ (8 : Int32) := by
                have c33 : (0 : Int32) ≤ (X22.1 0 0 12) ∧ (X22.1 0 0 12) ≤ (8 : Int32) := hX22.at1 0 0 12
                have c34 : (X22.1 0 0 12) = (X20.1 0 0 12) := by rw [eq_28]; exact up_k (by decide)
                have c35 : (0 : Int32) ≤ (X20.1 0 0 12) ∧ (X20.1 0 0 12) ≤ (8 : Int32) := hX20.at1 0 0 12
                have c36 : (X20.1 0 0 12) = (X19.1 0 0 12) := by rw [eq_17]; exact up_k (by decide)
                have c37 : (0 : Int32) ≤ (X19.1 0 0 12) ∧ (X19.1 0 0 12) ≤ (8 : Int32) := hX19.at1 0 0 12
                have c38 : (X19.1 0 0 12) = (X18.1 0 0 12) := by rw [eq_12]; exact up_k (by decide)
                have c39 : (0 : Int32) ≤ (X18.1 0 0 12) ∧ (X18.1 0 0 12) ≤ (8 : Int32) := hX18.at1 0 0 12
                have c40 : (X18.1 0 0 12) = (X17.1 0 0 12) := by rw [eq_11]; exact up_k (by decide)
                have c41 : (0 : Int32) ≤ (X17.1 0 0 12) ∧ (X17.1 0 0 12) ≤ (8 : Int32) := hX17.at1 0 0 12
                have c42 : (X17.1 0 0 12) = (X.1 0 0 12) := by rw [eq_10]; exact up_k (by decide)
                have c43 : (0 : Int32) ≤ (X.1 0 0 12) ∧ (X.1 0 0 12) ≤ (8 : Int32) := hX.at1 0 0 12
                exact ⟨by grind, by grind⟩
              have hX23 : IV A B X23 := by rw [eq_31]; exact hX22.w1 rfl (a1) pf32
              have pf44 : (0 : Int32) ≤ (X23.1 0 0 12) ∧ (X23.1 0 0 12) ≤ (8 : Int32) := by
                have c45 : (0 : Int32) ≤ (X23.1 0 0 12) ∧ (X23.1 0 0 12) ≤ (8 : Int32) := hX23.at1 0 0 12
                have c46 : (X23.1 0 0 12) = ((X22.1 0 0 12) + (1 : Int32)) := by rw [eq_31]; exact up_s
                have c47 : (0 : Int32) ≤ (X22.1 0 0 12) ∧ (X22.1 0 0 12) ≤ (8 : Int32) := hX22.at1 0 0 12
                have c48 : (X22.1 0 0 12) = (X20.1 0 0 12) := by rw [eq_28]; exact up_k (by decide)
                have c49 : (0 : Int32) ≤ (X20.1 0 0 12) ∧ (X20.1 0 0 12) ≤ (8 : Int32) := hX20.at1 0 0 12
                have c50 : (X20.1 0 0 12) = (X19.1 0 0 12) := by rw [eq_17]; exact up_k (by decide)
                have c51 : (0 : Int32) ≤ (X19.1 0 0 12) ∧ (X19.1 0 0 12) ≤ (8 : Int32) := hX19.at1 0 0 12
                have c52 : (X19.1 0 0 12) = (X18.1 0 0 12) := by rw [eq_12]; exact up_k (by decide)
                have c53 : (0 : Int32) ≤ (X18.1 0 0 12) ∧ (X18.1 0 0 12) ≤ (8 : Int32) := hX18.at1 0 0 12
                have c54 : (X18.1 0 0 12) = (X17.1 0 0 12) := by rw [eq_11]; exact up_k (by decide)
                have c55 : (0 : Int32) ≤ (X17.1 0 0 12) ∧ (X17.1 0 0 12) ≤ (8 : Int32) := hX17.at1 0 0 12
                have c56 : (X17.1 0 0 12) = (X.1 0 0 12) := by rw [eq_10]; exact up_k (by decide)
                have c57 : (0 : Int32) ≤ (X.1 0 0 12) ∧ (X.1 0 0 12) ≤ (8 : Int32) := hX.at1 0 0 12
                exact ⟨by grind, by grind⟩
              exact ok_some ⟨hX23, pf44⟩
            · have pf58 : "java/lang/IllegalStateException" = "java/lang/IllegalStateException" ∨ "java/lang/IllegalStateException" = "java/lang/IndexOutOfBoundsException" ∨ "java/lang/IllegalStateException" = "java/lang/UnsupportedOperationException" := by simp
              exact ok_some ⟨hX, pf58⟩
          · have pf59 : "java/lang/UnsupportedOperationException" = "java/lang/IllegalStateException" ∨ "java/lang/UnsupportedOperationException" = "java/lang/IndexOutOfBoundsException" ∨ "java/lang/UnsupportedOperationException" = "java/lang/UnsupportedOperationException" := by simp
            exact ok_some ⟨hX, pf59⟩
        · have pf60 : "java/lang/UnsupportedOperationException" = "java/lang/IllegalStateException" ∨ "java/lang/UnsupportedOperationException" = "java/lang/IndexOutOfBoundsException" ∨ "java/lang/UnsupportedOperationException" = "java/lang/UnsupportedOperationException" := by simp
          exact ok_some ⟨hX, pf60⟩
    · have w61 : E10 = "java/lang/IndexOutOfBoundsException" := w3
      have pf62 : E10 = "java/lang/IllegalStateException" ∨ E10 = "java/lang/IndexOutOfBoundsException" ∨ E10 = "java/lang/UnsupportedOperationException" := by grind
      exact ok_some ⟨hX, pf62⟩
  · have w63 : E4 = "java/lang/IndexOutOfBoundsException" := w1
    have pf64 : E4 = "java/lang/IllegalStateException" ∨ E4 = "java/lang/IndexOutOfBoundsException" ∨ E4 = "java/lang/UnsupportedOperationException" := by grind
    exact ok_some ⟨hX, pf64⟩
theorem s_X6_closeChallenge_L4 {A : Nat → Nat → Nat → Prop} {B : SS} (p0 : Int32) (ip0 : (0 : Int32) ≤ p0 ∧ p0 ≤ (39 : Int32)) (a1 : ∀ p, A 24 0 p) : ∀ (n : Nat), ∀ (v4 : Int32) (v5 : Int32) (X6 : SS) (k1 : (Int32 → SS → Option (SS × Unit))), (FU v4 8 n) → ((0 : Int32) ≤ v4 ∧ v4 ≤ (8 : Int32)) → ((0 : Int32) ≤ v5 ∧ v5 ≤ (8 : Int32)) → (IV A B X6) → (v5 ≤ v4) → (∀ (k_0 : Int32) (k_1 : SS), ((0 : Int32) ≤ k_0 ∧ k_0 ≤ (8 : Int32)) → (IV A B k_1) → ok (k1 k_0 k_1) (fun r => IV A B r.1 ∧ True)) → ok (f_X6_closeChallenge_L4 p0 n v4 v5 X6 k1) (fun r => IV A B r.1 ∧ True) := by
  intro n
  induction n with
  | zero =>
    intro v4 v5 X6 k1 hF iv4 iv5 hX6 x0 hk
    exact (FU.stop hF (show v4 ≤ (8 : Int32) by grind)).elim
  | succ n ih =>
    intro v4 v5 X6 k1 hF iv4 iv5 hX6 x0 hk
    rw [f_X6_closeChallenge_L4]
    refine ok_ite (fun q1 => ?_) (fun q1 => ?_)
    · have pf2 : (0 : Int32) ≤ v5 ∧ v5 ≤ (8 : Int32) := by
        have c3 : (0 : Int32) ≤ (X6.1 0 0 12) ∧ (X6.1 0 0 12) ≤ (8 : Int32) := hX6.at1 0 0 12
        exact ⟨by grind, by grind⟩
      exact hk v5 X6 pf2 hX6
    · refine ok_gd ?_ (fun g4 => ?_)
      · have c5 : (0 : Int32) ≤ (X6.1 0 0 12) ∧ (X6.1 0 0 12) ≤ (8 : Int32) := hX6.at1 0 0 12
        exact vp_of (by decide) (by grind) (show v4 < (8 : Int32) by grind)
      have g4 := vp_to (by decide) g4
      have g4 : (0 : Int32) ≤ v4 ∧ v4 < (8 : Int32) := g4
      refine ok_ite (fun q6 => ?_) (fun q6 => ?_)
      · have pf7 : FU (v4 + (1 : Int32)) 8 n := by
          have c8 : (0 : Int32) ≤ (X6.1 0 0 12) ∧ (X6.1 0 0 12) ≤ (8 : Int32) := hX6.at1 0 0 12
          have c9 : (0 : Int32) ≤ (X6.1 24 0 (v4).toNatClampNeg) ∧ (X6.1 24 0 (v4).toNatClampNeg) ≤ (39 : Int32) := hX6.at1 24 0 ((v4).toNatClampNeg)
          exact FU.step hF (by grind)
        have pf10 : (0 : Int32) ≤ (v4 + (1 : Int32)) ∧ (v4 + (1 : Int32)) ≤ (8 : Int32) := by
          have c11 : (0 : Int32) ≤ (X6.1 0 0 12) ∧ (X6.1 0 0 12) ≤ (8 : Int32) := hX6.at1 0 0 12
          have c12 : (0 : Int32) ≤ (X6.1 24 0 (v4).toNatClampNeg) ∧ (X6.1 24 0 (v4).toNatClampNeg) ≤ (39 : Int32) := hX6.at1 24 0 ((v4).toNatClampNeg)
          exact ⟨by grind, by grind⟩
        have pf13 : (0 : Int32) ≤ v5 ∧ v5 ≤ (8 : Int32) := by
          have c14 : (0 : Int32) ≤ (X6.1 0 0 12) ∧ (X6.1 0 0 12) ≤ (8 : Int32) := hX6.at1 0 0 12
          have c15 : (0 : Int32) ≤ (X6.1 24 0 (v4).toNatClampNeg) ∧ (X6.1 24 0 (v4).toNatClampNeg) ≤ (39 : Int32) := hX6.at1 24 0 ((v4).toNatClampNeg)
          exact ⟨by grind, by grind⟩
        have pf16 : v5 ≤ (v4 + (1 : Int32)) := by
          have c17 : (0 : Int32) ≤ (X6.1 0 0 12) ∧ (X6.1 0 0 12) ≤ (8 : Int32) := hX6.at1 0 0 12
          have c18 : (0 : Int32) ≤ (X6.1 24 0 (v4).toNatClampNeg) ∧ (X6.1 24 0 (v4).toNatClampNeg) ≤ (39 : Int32) := hX6.at1 24 0 ((v4).toNatClampNeg)
          grind
        exact ih (v4 + (1 : Int32)) v5 X6 k1 pf7 pf10 pf13 hX6 pf16 hk
      · refine ok_gd ?_ (fun g19 => ?_)
        · have c20 : (0 : Int32) ≤ (X6.1 0 0 12) ∧ (X6.1 0 0 12) ≤ (8 : Int32) := hX6.at1 0 0 12
          have c21 : (0 : Int32) ≤ (X6.1 24 0 (v4).toNatClampNeg) ∧ (X6.1 24 0 (v4).toNatClampNeg) ≤ (39 : Int32) := hX6.at1 24 0 ((v4).toNatClampNeg)
          exact vp_of (by decide) (by grind) (show v4 < (8 : Int32) by grind)
        have g19 := vp_to (by decide) g19
        have g19 : (0 : Int32) ≤ v4 ∧ v4 < (8 : Int32) := g19
        refine ok_gd ?_ (fun g22 => ?_)
        · have c23 : (0 : Int32) ≤ (X6.1 0 0 12) ∧ (X6.1 0 0 12) ≤ (8 : Int32) := hX6.at1 0 0 12
          have c24 : (0 : Int32) ≤ (X6.1 24 0 (v4).toNatClampNeg) ∧ (X6.1 24 0 (v4).toNatClampNeg) ≤ (39 : Int32) := hX6.at1 24 0 ((v4).toNatClampNeg)
          exact vp_of (by decide) (by grind) (show v5 < (8 : Int32) by grind)
        have g22 := vp_to (by decide) g22
        have g22 : (0 : Int32) ≤ v5 ∧ v5 < (8 : Int32) := g22
        refine ok_lq (fun X13 eq_25 => ?_)
        have pf26 : (0 : Int32) ≤ (X6.1 24 0 (v4).toNatClampNeg) ∧ (X6.1 24 0 (v4).toNatClampNeg) ≤ (39 : Int32) := by
          have c27 : (0 : Int32) ≤ (X6.1 24 0 (v4).toNatClampNeg) ∧ (X6.1 24 0 (v4).toNatClampNeg) ≤ (39 : Int32) := hX6.at1 24 0 ((v4).toNatClampNeg)
          have c28 : (0 : Int32) ≤ (X6.1 0 0 12) ∧ (X6.1 0 0 12) ≤ (8 : Int32) := hX6.at1 0 0 12
          exact ⟨by grind, by grind⟩
        have hX13 : IV A B X13 := by rw [eq_25]; exact hX6.w1 rfl (a1 ((v5).toNatClampNeg)) pf26
        have pf29 : FU (v4 + (1 : Int32)) 8 n := by
          have c30 : (0 : Int32) ≤ (X6.1 0 0 12) ∧ (X6.1 0 0 12) ≤ (8 : Int32) := hX6.at1 0 0 12
          have c31 : (0 : Int32) ≤ (X6.1 24 0 (v4).toNatClampNeg) ∧ (X6.1 24 0 (v4).toNatClampNeg) ≤ (39 : Int32) := hX6.at1 24 0 ((v4).toNatClampNeg)
          exact FU.step hF (by grind)
        have pf32 : (0 : Int32) ≤ (v4 + (1 : Int32)) ∧ (v4 + (1 : Int32)) ≤ (8 : Int32) := by
          have c33 : (0 : Int32) ≤ (X6.1 0 0 12) ∧ (X6.1 0 0 12) ≤ (8 : Int32) := hX6.at1 0 0 12
          have c34 : (0 : Int32) ≤ (X6.1 24 0 (v4).toNatClampNeg) ∧ (X6.1 24 0 (v4).toNatClampNeg) ≤ (39 : Int32) := hX6.at1 24 0 ((v4).toNatClampNeg)
          exact ⟨by grind, by grind⟩
        have pf35 : (0 : Int32) ≤ (v5 + (1 : Int32)) ∧ (v5 + (1 : Int32)) ≤ (8 : Int32) := by
          have c36 : (0 : Int32) ≤ (X6.1 0 0 12) ∧ (X6.1 0 0 12) ≤ (8 : Int32) := hX6.at1 0 0 12
          have c37 : (0 : Int32) ≤ (X6.1 24 0 (v4).toNatClampNeg) ∧ (X6.1 24 0 (v4).toNatClampNeg) ≤ (39 : Int32) := hX6.at1 24 0 ((v4).toNatClampNeg)
          exact ⟨by grind, by grind⟩
        have pf38 : (v5 + (1 : Int32)) ≤ (v4 + (1 : Int32)) := by
          have c39 : (0 : Int32) ≤ (X6.1 0 0 12) ∧ (X6.1 0 0 12) ≤ (8 : Int32) := hX6.at1 0 0 12
          have c40 : (0 : Int32) ≤ (X6.1 24 0 (v4).toNatClampNeg) ∧ (X6.1 24 0 (v4).toNatClampNeg) ≤ (39 : Int32) := hX6.at1 24 0 ((v4).toNatClampNeg)
          grind
        exact ih (v4 + (1 : Int32)) (v5 + (1 : Int32)) X13 k1 pf29 pf32 pf35 hX13 pf38 hk
theorem s_X6_closeChallenge {A : Nat → Nat → Nat → Prop} {B : SS} (X : SS) (hX : IV A B X) (p0 : Int32) (ip0 : (0 : Int32) ≤ p0 ∧ p0 ≤ (39 : Int32)) (a1 : A 0 0 12) (a2 : ∀ p, A 24 0 p) : ok (f_X6_closeChallenge X p0) (fun r => IV A B r.1 ∧ True) := by
  unfold f_X6_closeChallenge
  have pf1 : (0 : Int32) ≤ p0 ∧ p0 ≤ (39 : Int32) := by
    exact ⟨by grind, by grind⟩
  have pf2 : FU (0 : Int32) 8 1000 := by
    exact FU.start (by grind) (by decide)
  have pf3 : (0 : Int32) ≤ (0 : Int32) := by
    grind
  refine s_X6_closeChallenge_L4 p0 pf1 (fun p => a2 p) 1000 (0 : Int32) (0 : Int32) X _ pf2 (show (0 : Int32) ≤ (0 : Int32) ∧ (0 : Int32) ≤ (8 : Int32) from ⟨by decide, by decide⟩) (show (0 : Int32) ≤ (0 : Int32) ∧ (0 : Int32) ≤ (8 : Int32) from ⟨by decide, by decide⟩) hX pf3 (fun v2 X3 wv2 hX3 => ?_)
  have wv2 : (0 : Int32) ≤ v2 ∧ v2 ≤ (8 : Int32) := wv2
  refine ok_lq (fun X7 eq_4 => ?_)
  have pf5 : (0 : Int32) ≤ v2 ∧ v2 ≤ (8 : Int32) := by
    exact ⟨by grind, by grind⟩
  have hX7 : IV A B X7 := by rw [eq_4]; exact hX3.w1 rfl (a1) pf5
  exact ok_some ⟨hX7, trivial⟩
theorem s_X6_closeByBody {A : Nat → Nat → Nat → Prop} {B : SS} (X : SS) (hX : IV A B X) (p0 : Int32) (ip0 : (0 : Int32) ≤ p0 ∧ p0 ≤ (39 : Int32)) (i2 : Nat) (i3 : Nat) (a1 : A 0 0 12) (a2 : ∀ j, 1 ≤ j → A 1 j 2) (a3 : ∀ j, A 12 j 11) (a4 : ∀ j, A 12 j 12) (a5 : ∀ j, A 12 j 13) (a6 : ∀ j, A 12 j 14) (a7 : ∀ j p, A 13 j p) (a8 : A 16 1 4) (a9 : A 16 1 5) (a10 : A 16 1 6) (a11 : A 16 1 7) (a12 : A 16 1 8) (a13 : ∀ p, A 17 1 p) (a14 : ∀ p, A 18 1 p) (a15 : ∀ p, A 19 1 p) (a16 : ∀ j p, 1 ≤ j → A 2 j p) (a17 : ∀ p, A 20 1 p) (a18 : ∀ p, A 24 0 p) (a19 : ∀ j p, 1 ≤ j → A 3 j p) (a20 : ∀ j, A 9 j 3) : ok (f_X6_closeByBody X p0 i2 i3) (fun r => IV A B r.1 ∧ (98 : Int32) ≤ r.2 ∧ r.2 ≤ (115 : Int32)) := by
  unfold f_X6_closeByBody
  refine ok_gd ?_ (fun g1 => ?_)
  · exact vp_of (by decide) (by grind) (show p0 < (40 : Int32) by grind)
  have g1 := vp_to (by decide) g1
  have g1 : (0 : Int32) ≤ p0 ∧ p0 < (40 : Int32) := g1
  have pf2 : (0 : Int32) ≤ p0 ∧ p0 ≤ (39 : Int32) := by
    exact ⟨by grind, by grind⟩
  refine ok_b1 (s_X6_closeChallenge X hX p0 pf2 (a1) (fun p => a18 p)) (fun X3 v2 w3 => ?_)
  have hX3 : IV A B X3 := w3.1
  refine ok_b1 (s_X5_regain X3 hX3 (p0).toNatClampNeg i2 a2 (a4 ((p0).toNatClampNeg)) a16 a19) (fun X6 v5 w4 => ?_)
  have hX6 : IV A B X6 := w4.1
  refine ok_b1 (s_X6_verdictOn X6 hX6 (p0).toNatClampNeg (a8) (a9) (a10) (a11) (a12) (fun p => a13 p) (fun p => a14 p) (fun p => a15 p) (fun p => a17 p)) (fun X9 v8 w5 => ?_)
  have hX9 : IV A B X9 := w5.1
  have w6 : (102 : Int32) ≤ v8 ∧ v8 ≤ (115 : Int32) := w5.2
  refine ok_gd ?_ (fun g7 => ?_)
  · exact okc_of (by grind) (by grind)
  refine ok_lq (fun X12 eq_8 => ?_)
  have pf9 : (0 : Int32) ≤ v8 ∧ v8 ≤ (65535 : Int32) := by
    exact ⟨by grind, by grind⟩
  have hX12 : IV A B X12 := by rw [eq_8]; exact hX9.w1 rfl (a3 ((p0).toNatClampNeg)) pf9
  refine ok_b1 (s_X6_makeRoom X12 hX12 a2 a3 a4 a5 a6 a7 (a8) (a9) (a10) (a11) (a12) (fun p => a13 p) (fun p => a14 p) (fun p => a15 p) (fun p => a17 p)) (fun X14 v13 w10 => ?_)
  have hX14 : IV A B X14 := w10.1
  refine ok_ite (fun q11 => ?_) (fun q11 => ?_)
  · refine ok_lq (fun X23 eq_12 => ?_)
    have hX23 : IV A B X23 := by rw [eq_12]; exact hX14.w1f rfl (a20 i3) rfl
    have pf13 : (98 : Int32) ≤ (115 : Int32) ∧ (115 : Int32) ≤ (115 : Int32) := by
      exact ⟨by grind, by grind⟩
    exact ok_some ⟨hX23, pf13⟩
  · refine ok_gd ?_ (fun g14 => ?_)
    · have c15 : (0 : Int32) ≤ (X14.1 12 (p0).toNatClampNeg 15) ∧ (X14.1 12 (p0).toNatClampNeg 15) ≤ (9 : Int32) := hX14.at1 12 ((p0).toNatClampNeg) 15
      exact vp_of (by decide) (by grind) (show (X14.1 12 (p0).toNatClampNeg 15) < (10 : Int32) by grind)
    have g14 := vp_to (by decide) g14
    have g14 : (0 : Int32) ≤ (X14.1 12 (p0).toNatClampNeg 15) ∧ (X14.1 12 (p0).toNatClampNeg 15) < (10 : Int32) := g14
    refine ok_lq (fun X18 eq_16 => ?_)
    have hX18 : IV A B X18 := by rw [eq_16]; exact hX14.w1f rfl (a20 (((X14.1 12 (p0).toNatClampNeg 15)).toNatClampNeg)) rfl
    refine ok_ite (fun q17 => ?_) (fun q17 => ?_)
    · have pf18 : (98 : Int32) ≤ (98 : Int32) ∧ (98 : Int32) ≤ (115 : Int32) := by
        exact ⟨by grind, by grind⟩
      exact ok_some ⟨hX18, pf18⟩
    · refine ok_b1 (s_X6_dropBody X18 hX18 (p0).toNatClampNeg a2 (a3 ((p0).toNatClampNeg)) (a4 ((p0).toNatClampNeg)) (a5 ((p0).toNatClampNeg)) (a6 ((p0).toNatClampNeg)) (fun p => a7 ((p0).toNatClampNeg) p) (a8) (a9) (a10) (a11) (a12) (fun p => a13 p) (fun p => a14 p) (fun p => a15 p) (fun p => a17 p)) (fun X21 v20 w19 => ?_)
      have hX21 : IV A B X21 := w19.1
      have pf20 : (98 : Int32) ≤ (98 : Int32) ∧ (98 : Int32) ≤ (115 : Int32) := by
        exact ⟨by grind, by grind⟩
      exact ok_some ⟨hX21, pf20⟩
theorem s_X6_give {A : Nat → Nat → Nat → Prop} {B : SS} (X : SS) (hX : IV A B X) (p0 : Int32) (p1 : Int32) (a1 : A 0 0 12) (a2 : ∀ j, 1 ≤ j → A 1 j 2) (a3 : ∀ j, A 12 j 11) (a4 : ∀ j, A 12 j 12) (a5 : ∀ j, A 12 j 13) (a6 : ∀ j, A 12 j 14) (a7 : ∀ j p, A 13 j p) (a8 : A 16 1 4) (a9 : A 16 1 5) (a10 : A 16 1 6) (a11 : A 16 1 7) (a12 : A 16 1 8) (a13 : ∀ p, A 17 1 p) (a14 : ∀ p, A 18 1 p) (a15 : ∀ p, A 19 1 p) (a16 : ∀ j p, 1 ≤ j → A 2 j p) (a17 : ∀ p, A 20 1 p) (a18 : ∀ p, A 24 0 p) (a19 : ∀ j p, 1 ≤ j → A 3 j p) (a20 : ∀ j, A 9 j 3) : ok (f_X6_give X p0 p1) (fun r => IV A B r.1 ∧ se (fun v => (98 : Int32) ≤ v ∧ v ≤ (115 : Int32)) (fun E => E = "java/lang/IndexOutOfBoundsException" ∨ E = "java/lang/UnsupportedOperationException" ∨ E = "java/util/NoSuchElementException") r.2) := by
  unfold f_X6_give
  refine ok_e0 (s_X6_memberAt X hX p0) (fun i1 w1 => ?_) (fun E4 w1 => ?_)
  · have ni1 : i1 < 10 := w1.1
    have w2 : ((0 : Int32) ≤ p0 ∧ p0 < (X.1 0 0 10)) := w1.2
    refine ok_e0 (s_X6_workAt X hX p1) (fun i7 w3 => ?_) (fun E10 w3 => ?_)
    · have w4 : ((0 : Int32) ≤ p1 ∧ p1 < (X.1 0 0 11)) := w3
      refine ok_ite (fun q5 => ?_) (fun q5 => ?_)
      · have pf6 : (0 : Int32) ≤ p1 ∧ p1 ≤ (39 : Int32) := by
          have c7 : (0 : Int32) ≤ (X.1 0 0 11) ∧ (X.1 0 0 11) ≤ (40 : Int32) := hX.at1 0 0 11
          exact ⟨by grind, by grind⟩
        refine ok_b0 (s_X2_placeOfCopy X hX i1 p1 pf6) (fun v14 w8 => ?_)
        have w9 : ((-1) : Int32) ≤ v14 ∧ v14 ≤ (2 : Int32) ∧ (v14 = (-1) ∨ v14 < (X.1 9 i1 2)) := w8
        refine ok_ite (fun q10 => ?_) (fun q10 => ?_)
        · have pf11 : "java/util/NoSuchElementException" = "java/lang/IndexOutOfBoundsException" ∨ "java/util/NoSuchElementException" = "java/lang/UnsupportedOperationException" ∨ "java/util/NoSuchElementException" = "java/util/NoSuchElementException" := by simp
          exact ok_some ⟨hX, pf11⟩
        · refine ok_gd ?_ (fun g12 => ?_)
          · have c13 : (0 : Int32) ≤ (X.1 9 i1 2) ∧ (X.1 9 i1 2) ≤ (3 : Int32) := hX.at1 9 i1 2
            exact vp_of (by decide) (by grind) (show v14 < (3 : Int32) by grind)
          have g12 := vp_to (by decide) g12
          have g12 : (0 : Int32) ≤ v14 ∧ v14 < (3 : Int32) := g12
          refine ok_gd ?_ (fun g14 => ?_)
          · exact (hX.at3 ni1 (cl_lt (n := 3) (by assumption))).2
          have pf15 : (0 : Int32) ≤ p1 ∧ p1 ≤ (39 : Int32) := by
            have c16 : (0 : Int32) ≤ (X.1 0 0 11) ∧ (X.1 0 0 11) ≤ (40 : Int32) := hX.at1 0 0 11
            exact ⟨by grind, by grind⟩
          refine ok_b1 (s_X6_closeByBody X hX p1 pf15 (X.2.2.1 10 i1 (v14).toNatClampNeg) i1 (a1) a2 a3 a4 a5 a6 a7 (a8) (a9) (a10) (a11) (a12) (fun p => a13 p) (fun p => a14 p) (fun p => a15 p) a16 (fun p => a17 p) (fun p => a18 p) a19 a20) (fun X20 v19 w17 => ?_)
          have hX20 : IV A B X20 := w17.1
          have w18 : (98 : Int32) ≤ v19 ∧ v19 ≤ (115 : Int32) := w17.2
          refine ok_gd ?_ (fun g19 => ?_)
          · exact okc_of (by grind) (by grind)
          have pf20 : (98 : Int32) ≤ v19 ∧ v19 ≤ (115 : Int32) := by
            exact ⟨by grind, by grind⟩
          exact ok_some ⟨hX20, pf20⟩
      · have pf21 : "java/lang/UnsupportedOperationException" = "java/lang/IndexOutOfBoundsException" ∨ "java/lang/UnsupportedOperationException" = "java/lang/UnsupportedOperationException" ∨ "java/lang/UnsupportedOperationException" = "java/util/NoSuchElementException" := by simp
        exact ok_some ⟨hX, pf21⟩
    · have w22 : E10 = "java/lang/IndexOutOfBoundsException" := w3
      have pf23 : E10 = "java/lang/IndexOutOfBoundsException" ∨ E10 = "java/lang/UnsupportedOperationException" ∨ E10 = "java/util/NoSuchElementException" := by grind
      exact ok_some ⟨hX, pf23⟩
  · have w24 : E4 = "java/lang/IndexOutOfBoundsException" := w1
    have pf25 : E4 = "java/lang/IndexOutOfBoundsException" ∨ E4 = "java/lang/UnsupportedOperationException" ∨ E4 = "java/util/NoSuchElementException" := by grind
    exact ok_some ⟨hX, pf25⟩
theorem s_X6_isTheBody_J78 {A : Nat → Nat → Nat → Prop} {B : SS} (v8 : Int32) (iv8 : (0 : Int32) ≤ v8 ∧ v8 ≤ (4 : Int32)) (X9 : SS) (hX9 : IV A B X9) (i1 : Nat) (X : SS) (hX : IV A B X) (i2 : Nat) (v13 : Int32) (iv13 : (0 : Int32) ≤ v13 ∧ v13 ≤ (1 : Int32)) (a1 : A 16 1 4) (a2 : A 16 1 5) (a3 : A 16 1 6) (a4 : A 16 1 7) (a5 : A 16 1 8) (a6 : ∀ p, A 17 1 p) (a7 : ∀ p, A 18 1 p) (a8 : ∀ p, A 19 1 p) (a9 : ∀ p, A 20 1 p) {n : Nat} (rc : Int32 → SS → (SS → Option (SS × Int32)) → Option (SS × Int32)) (hrc : ∀ (v8 : Int32) (X9 : SS) (k6 : (SS → Option (SS × Int32))), (FU v8 5 n) → ((0 : Int32) ≤ v8 ∧ v8 ≤ (5 : Int32)) → (IV A B X9) → (∀ (k_0 : SS), (IV A B k_0) → ok (k6 k_0) (fun r => IV A B r.1 ∧ (0 : Int32) ≤ r.2 ∧ r.2 ≤ (1 : Int32))) → ok (rc v8 X9 k6) (fun r => IV A B r.1 ∧ (0 : Int32) ≤ r.2 ∧ r.2 ≤ (1 : Int32))) (k6 : SS → Option (SS × Int32)) (hk : ∀ (k_0 : SS), (IV A B k_0) → ok (k6 k_0) (fun r => IV A B r.1 ∧ (0 : Int32) ≤ r.2 ∧ r.2 ≤ (1 : Int32))) (hF : FU v8 5 (n + 1)) : ok (f_X6_isTheBody_J78 rc k6 v8 X9 i1 X i2 v13) (fun r => IV A B r.1 ∧ (0 : Int32) ≤ r.2 ∧ r.2 ≤ (1 : Int32)) := by
  unfold f_X6_isTheBody_J78
  refine ok_ite (fun q1 => ?_) (fun q1 => ?_)
  · refine ok_gd ?_ (fun g2 => ?_)
    · exact vp_of (by decide) (by grind) (show v8 < (5 : Int32) by grind)
    have g2 := vp_to (by decide) g2
    have g2 : (0 : Int32) ≤ v8 ∧ v8 < (5 : Int32) := g2
    refine ok_b1 (s_X6_stepsDoneBy X9 hX9 i1 (5 * ((X.1 12 i2 8)).toNatClampNeg + (v8).toNatClampNeg) (a1) (a2) (a3) (a4) (a5) (fun p => a6 p) (fun p => a7 p) (fun p => a8 p) (fun p => a9 p)) (fun X18 v17 w3 => ?_)
    have hX18 : IV A B X18 := w3.1
    refine ok_gd ?_ (fun g4 => ?_)
    · exact vp_of (by decide) (by grind) (show v8 < (5 : Int32) by grind)
    have g4 := vp_to (by decide) g4
    have g4 : (0 : Int32) ≤ v8 ∧ v8 < (5 : Int32) := g4
    refine ok_ite (fun q5 => ?_) (fun q5 => ?_)
    · have pf6 : FU (v8 + (1 : Int32)) 5 n := by
        exact FU.step hF (by grind)
      have pf7 : (0 : Int32) ≤ (v8 + (1 : Int32)) ∧ (v8 + (1 : Int32)) ≤ (5 : Int32) := by
        exact ⟨by grind, by grind⟩
      exact hrc (v8 + (1 : Int32)) X18 k6 pf6 pf7 hX18 hk
    · have pf8 : (0 : Int32) ≤ (0 : Int32) ∧ (0 : Int32) ≤ (1 : Int32) := by
        exact ⟨by grind, by grind⟩
      exact ok_some ⟨hX18, pf8⟩
  · have pf9 : FU (v8 + (1 : Int32)) 5 n := by
      exact FU.step hF (by grind)
    have pf10 : (0 : Int32) ≤ (v8 + (1 : Int32)) ∧ (v8 + (1 : Int32)) ≤ (5 : Int32) := by
      exact ⟨by grind, by grind⟩
    exact hrc (v8 + (1 : Int32)) X9 k6 pf9 pf10 hX9 hk
theorem s_X6_isTheBody_L38 {A : Nat → Nat → Nat → Prop} {B : SS} (i2 : Nat) (X : SS) (hX : IV A B X) (i1 : Nat) (a1 : A 16 1 4) (a2 : A 16 1 5) (a3 : A 16 1 6) (a4 : A 16 1 7) (a5 : A 16 1 8) (a6 : ∀ p, A 17 1 p) (a7 : ∀ p, A 18 1 p) (a8 : ∀ p, A 19 1 p) (a9 : ∀ p, A 20 1 p) : ∀ (n : Nat), ∀ (v8 : Int32) (X9 : SS) (k6 : (SS → Option (SS × Int32))), (FU v8 5 n) → ((0 : Int32) ≤ v8 ∧ v8 ≤ (5 : Int32)) → (IV A B X9) → (∀ (k_0 : SS), (IV A B k_0) → ok (k6 k_0) (fun r => IV A B r.1 ∧ (0 : Int32) ≤ r.2 ∧ r.2 ≤ (1 : Int32))) → ok (f_X6_isTheBody_L38 i2 X i1 n v8 X9 k6) (fun r => IV A B r.1 ∧ (0 : Int32) ≤ r.2 ∧ r.2 ≤ (1 : Int32)) := by
  intro n
  induction n with
  | zero =>
    intro v8 X9 k6 hF iv8 hX9 hk
    exact (FU.stop hF (show v8 ≤ (5 : Int32) by grind)).elim
  | succ n ih =>
    intro v8 X9 k6 hF iv8 hX9 hk
    rw [f_X6_isTheBody_L38]
    refine ok_ite (fun q1 => ?_) (fun q1 => ?_)
    · exact hk X9 hX9
    · refine ok_ite (fun q2 => ?_) (fun q2 => ?_)
      · exact hk X9 hX9
      · refine ok_gd ?_ (fun g3 => ?_)
        · have c4 : (0 : Int32) ≤ (X9.1 12 i2 13) ∧ (X9.1 12 i2 13) ≤ (5 : Int32) := hX9.at1 12 i2 13
          have c5 : (0 : Int32) ≤ (X9.1 7 ((X.1 12 i2 8)).toNatClampNeg 1) ∧ (X9.1 7 ((X.1 12 i2 8)).toNatClampNeg 1) ≤ (5 : Int32) := hX9.at1 7 (((X.1 12 i2 8)).toNatClampNeg) 1
          have c6 : (0 : Int32) ≤ (X.1 12 i2 8) ∧ (X.1 12 i2 8) ≤ (7 : Int32) := hX.at1 12 i2 8
          exact vp_of (by decide) (by grind) (show v8 < (5 : Int32) by grind)
        have g3 := vp_to (by decide) g3
        have g3 : (0 : Int32) ≤ v8 ∧ v8 < (5 : Int32) := g3
        refine ok_ite (fun q7 => ?_) (fun q7 => ?_)
        · have pf8 : (0 : Int32) ≤ v8 ∧ v8 ≤ (4 : Int32) := by
            have c9 : (0 : Int32) ≤ (X9.1 12 i2 13) ∧ (X9.1 12 i2 13) ≤ (5 : Int32) := hX9.at1 12 i2 13
            have c10 : (0 : Int32) ≤ (X9.1 7 ((X.1 12 i2 8)).toNatClampNeg 1) ∧ (X9.1 7 ((X.1 12 i2 8)).toNatClampNeg 1) ≤ (5 : Int32) := hX9.at1 7 (((X.1 12 i2 8)).toNatClampNeg) 1
            have c11 : (0 : Int32) ≤ (X.1 12 i2 8) ∧ (X.1 12 i2 8) ≤ (7 : Int32) := hX.at1 12 i2 8
            exact ⟨by grind, by grind⟩
          exact s_X6_isTheBody_J78 v8 pf8 X9 hX9 i1 X hX i2 (0 : Int32) (show (0 : Int32) ≤ (0 : Int32) ∧ (0 : Int32) ≤ (1 : Int32) from ⟨by decide, by decide⟩) (a1) (a2) (a3) (a4) (a5) (fun p => a6 p) (fun p => a7 p) (fun p => a8 p) (fun p => a9 p) (f_X6_isTheBody_L38 i2 X i1 n) ih k6 hk hF
        · have pf12 : (0 : Int32) ≤ v8 ∧ v8 ≤ (4 : Int32) := by
            have c13 : (0 : Int32) ≤ (X9.1 12 i2 13) ∧ (X9.1 12 i2 13) ≤ (5 : Int32) := hX9.at1 12 i2 13
            have c14 : (0 : Int32) ≤ (X9.1 7 ((X.1 12 i2 8)).toNatClampNeg 1) ∧ (X9.1 7 ((X.1 12 i2 8)).toNatClampNeg 1) ≤ (5 : Int32) := hX9.at1 7 (((X.1 12 i2 8)).toNatClampNeg) 1
            have c15 : (0 : Int32) ≤ (X.1 12 i2 8) ∧ (X.1 12 i2 8) ≤ (7 : Int32) := hX.at1 12 i2 8
            exact ⟨by grind, by grind⟩
          exact s_X6_isTheBody_J78 v8 pf12 X9 hX9 i1 X hX i2 (1 : Int32) (show (0 : Int32) ≤ (1 : Int32) ∧ (1 : Int32) ≤ (1 : Int32) from ⟨by decide, by decide⟩) (a1) (a2) (a3) (a4) (a5) (fun p => a6 p) (fun p => a7 p) (fun p => a8 p) (fun p => a9 p) (f_X6_isTheBody_L38 i2 X i1 n) ih k6 hk hF
theorem s_X6_isTheBody {A : Nat → Nat → Nat → Prop} {B : SS} (X : SS) (hX : IV A B X) (i1 : Nat) (i2 : Nat) (a1 : A 16 1 4) (a2 : A 16 1 5) (a3 : A 16 1 6) (a4 : A 16 1 7) (a5 : A 16 1 8) (a6 : ∀ p, A 17 1 p) (a7 : ∀ p, A 18 1 p) (a8 : ∀ p, A 19 1 p) (a9 : ∀ p, A 20 1 p) : ok (f_X6_isTheBody X i1 i2) (fun r => IV A B r.1 ∧ (0 : Int32) ≤ r.2 ∧ r.2 ≤ (1 : Int32)) := by
  unfold f_X6_isTheBody
  refine ok_ite (fun q1 => ?_) (fun q1 => ?_)
  · refine ok_b0 (s_X3_sumOfAll X hX i1) (fun v2 w2 => ?_)
    refine ok_ite (fun q3 => ?_) (fun q3 => ?_)
    · refine ok_gd ?_ (fun g4 => ?_)
      · have c5 : (0 : Int32) ≤ (X.1 12 i2 8) ∧ (X.1 12 i2 8) ≤ (7 : Int32) := hX.at1 12 i2 8
        have c6 : (0 : Int32) ≤ (X.1 1 i1 2) ∧ (X.1 1 i1 2) ≤ (24 : Int32) := hX.at1 1 i1 2
        exact vp_of (by decide) (by grind) (show (X.1 12 i2 8) < (8 : Int32) by grind)
      have g4 := vp_to (by decide) g4
      have g4 : (0 : Int32) ≤ (X.1 12 i2 8) ∧ (X.1 12 i2 8) < (8 : Int32) := g4
      have pf7 : FU (0 : Int32) 5 1000 := by
        exact FU.start (by grind) (by decide)
      refine s_X6_isTheBody_L38 i2 X hX i1 (a1) (a2) (a3) (a4) (a5) (fun p => a6 p) (fun p => a7 p) (fun p => a8 p) (fun p => a9 p) 1000 (0 : Int32) X _ pf7 (show (0 : Int32) ≤ (0 : Int32) ∧ (0 : Int32) ≤ (5 : Int32) from ⟨by decide, by decide⟩) hX (fun X7 hX7 => ?_)
      have pf8 : (0 : Int32) ≤ (1 : Int32) ∧ (1 : Int32) ≤ (1 : Int32) := by
        exact ⟨by grind, by grind⟩
      exact ok_some ⟨hX7, pf8⟩
    · have pf9 : (0 : Int32) ≤ (0 : Int32) ∧ (0 : Int32) ≤ (1 : Int32) := by
        exact ⟨by grind, by grind⟩
      exact ok_some ⟨hX, pf9⟩
  · have pf10 : (0 : Int32) ≤ (0 : Int32) ∧ (0 : Int32) ≤ (1 : Int32) := by
      exact ⟨by grind, by grind⟩
    exact ok_some ⟨hX, pf10⟩
theorem s_X6_answer {A : Nat → Nat → Nat → Prop} {B : SS} (X : SS) (hX : IV A B X) (p0 : Int32) (p1 : Int32) (a1 : A 0 0 12) (a2 : ∀ j, 1 ≤ j → A 1 j 2) (a3 : ∀ j, A 12 j 11) (a4 : ∀ j, A 12 j 12) (a5 : ∀ j, A 12 j 13) (a6 : ∀ j, A 12 j 14) (a7 : ∀ j p, A 13 j p) (a8 : A 16 1 4) (a9 : A 16 1 5) (a10 : A 16 1 6) (a11 : A 16 1 7) (a12 : A 16 1 8) (a13 : ∀ p, A 17 1 p) (a14 : ∀ p, A 18 1 p) (a15 : ∀ p, A 19 1 p) (a16 : ∀ j p, 1 ≤ j → A 2 j p) (a17 : ∀ p, A 20 1 p) (a18 : ∀ p, A 24 0 p) (a19 : ∀ j p, 1 ≤ j → A 3 j p) (a20 : ∀ j, A 9 j 3) : ok (f_X6_answer X p0 p1) (fun r => IV A B r.1 ∧ se (fun v => (45 : Int32) ≤ v ∧ v ≤ (115 : Int32)) (fun E => E = "java/lang/IndexOutOfBoundsException" ∨ E = "java/lang/UnsupportedOperationException") r.2) := by
  unfold f_X6_answer
  refine ok_e0 (s_X6_memberAt X hX p0) (fun i1 w1 => ?_) (fun E4 w1 => ?_)
  · have ni1 : i1 < 10 := w1.1
    have w2 : ((0 : Int32) ≤ p0 ∧ p0 < (X.1 0 0 10)) := w1.2
    refine ok_e0 (s_X6_workAt X hX p1) (fun i7 w3 => ?_) (fun E10 w3 => ?_)
    · have w4 : ((0 : Int32) ≤ p1 ∧ p1 < (X.1 0 0 11)) := w3
      refine ok_ite (fun q5 => ?_) (fun q5 => ?_)
      · refine ok_b0 (s_X3_isWhole X hX 0) (fun v14 w6 => ?_)
        have w7 : (0 : Int32) ≤ v14 ∧ v14 ≤ (1 : Int32) := w6
        refine ok_ite (fun q8 => ?_) (fun q8 => ?_)
        · have pf9 : "java/lang/UnsupportedOperationException" = "java/lang/IndexOutOfBoundsException" ∨ "java/lang/UnsupportedOperationException" = "java/lang/UnsupportedOperationException" := by simp
          exact ok_some ⟨hX, pf9⟩
        · refine ok_b1 (s_X6_isTheBody X hX 0 i7 (a8) (a9) (a10) (a11) (a12) (fun p => a13 p) (fun p => a14 p) (fun p => a15 p) (fun p => a17 p)) (fun X18 v17 w10 => ?_)
          have hX18 : IV A B X18 := w10.1
          have w11 : (0 : Int32) ≤ v17 ∧ v17 ≤ (1 : Int32) := w10.2
          refine ok_ite (fun q12 => ?_) (fun q12 => ?_)
          · have pf13 : (45 : Int32) ≤ (45 : Int32) ∧ (45 : Int32) ≤ (115 : Int32) := by
              exact ⟨by grind, by grind⟩
            exact ok_some ⟨hX18, pf13⟩
          · have pf14 : (0 : Int32) ≤ p1 ∧ p1 ≤ (39 : Int32) := by
              have c15 : (0 : Int32) ≤ (X.1 0 0 11) ∧ (X.1 0 0 11) ≤ (40 : Int32) := hX.at1 0 0 11
              exact ⟨by grind, by grind⟩
            refine ok_b1 (s_X6_closeByBody X18 hX18 p1 pf14 0 i1 (a1) a2 a3 a4 a5 a6 a7 (a8) (a9) (a10) (a11) (a12) (fun p => a13 p) (fun p => a14 p) (fun p => a15 p) a16 (fun p => a17 p) (fun p => a18 p) a19 a20) (fun X22 v21 w16 => ?_)
            have hX22 : IV A B X22 := w16.1
            have w17 : (98 : Int32) ≤ v21 ∧ v21 ≤ (115 : Int32) := w16.2
            refine ok_gd ?_ (fun g18 => ?_)
            · exact okc_of (by grind) (by grind)
            have pf19 : (45 : Int32) ≤ v21 ∧ v21 ≤ (115 : Int32) := by
              exact ⟨by grind, by grind⟩
            exact ok_some ⟨hX22, pf19⟩
      · have pf20 : "java/lang/UnsupportedOperationException" = "java/lang/IndexOutOfBoundsException" ∨ "java/lang/UnsupportedOperationException" = "java/lang/UnsupportedOperationException" := by simp
        exact ok_some ⟨hX, pf20⟩
    · have w21 : E10 = "java/lang/IndexOutOfBoundsException" := w3
      have pf22 : E10 = "java/lang/IndexOutOfBoundsException" ∨ E10 = "java/lang/UnsupportedOperationException" := by grind
      exact ok_some ⟨hX, pf22⟩
  · have w23 : E4 = "java/lang/IndexOutOfBoundsException" := w1
    have pf24 : E4 = "java/lang/IndexOutOfBoundsException" ∨ E4 = "java/lang/UnsupportedOperationException" := by grind
    exact ok_some ⟨hX, pf24⟩
theorem s_X6_open {A : Nat → Nat → Nat → Prop} {B : SS} (X : SS) (hX : IV A B X) (p0 : Int32) : ok (f_X6_open X p0) (fun r => se (fun v => (0 : Int32) ≤ v ∧ v ≤ (39 : Int32)) (fun E => E = "java/util/NoSuchElementException") r) := by
  unfold f_X6_open
  refine ok_ite (fun q1 => ?_) (fun q1 => ?_)
  · have pf2 : "java/util/NoSuchElementException" = "java/util/NoSuchElementException" := by simp
    exact ok_some pf2
  · refine ok_ite (fun q3 => ?_) (fun q3 => ?_)
    · refine ok_gd ?_ (fun g4 => ?_)
      · have c5 : (0 : Int32) ≤ (X.1 0 0 12) ∧ (X.1 0 0 12) ≤ (8 : Int32) := hX.at1 0 0 12
        exact vp_of (by decide) (by grind) (show p0 < (8 : Int32) by grind)
      have g4 := vp_to (by decide) g4
      have g4 : (0 : Int32) ≤ p0 ∧ p0 < (8 : Int32) := g4
      have pf6 : (0 : Int32) ≤ (X.1 24 0 (p0).toNatClampNeg) ∧ (X.1 24 0 (p0).toNatClampNeg) ≤ (39 : Int32) := by
        have c7 : (0 : Int32) ≤ (X.1 24 0 (p0).toNatClampNeg) ∧ (X.1 24 0 (p0).toNatClampNeg) ≤ (39 : Int32) := hX.at1 24 0 ((p0).toNatClampNeg)
        have c8 : (0 : Int32) ≤ (X.1 0 0 12) ∧ (X.1 0 0 12) ≤ (8 : Int32) := hX.at1 0 0 12
        exact ⟨by grind, by grind⟩
      exact ok_some pf6
    · have pf9 : "java/util/NoSuchElementException" = "java/util/NoSuchElementException" := by simp
      exact ok_some pf9
theorem s_X6_left {A : Nat → Nat → Nat → Prop} {B : SS} (X : SS) (hX : IV A B X) (p0 : Int32) : ok (f_X6_left X p0) (fun r => se (fun v => True) (fun E => E = "java/lang/IndexOutOfBoundsException" ∨ E = "java/lang/UnsupportedOperationException") r) := by
  unfold f_X6_left
  refine ok_e0 (s_X6_workAt X hX p0) (fun i1 w1 => ?_) (fun E4 w1 => ?_)
  · have w2 : ((0 : Int32) ≤ p0 ∧ p0 < (X.1 0 0 11)) := w1
    refine ok_ite (fun q3 => ?_) (fun q3 => ?_)
    · exact ok_some trivial
    · have pf4 : "java/lang/UnsupportedOperationException" = "java/lang/IndexOutOfBoundsException" ∨ "java/lang/UnsupportedOperationException" = "java/lang/UnsupportedOperationException" := by simp
      exact ok_some pf4
  · have w5 : E4 = "java/lang/IndexOutOfBoundsException" := w1
    have pf6 : E4 = "java/lang/IndexOutOfBoundsException" ∨ E4 = "java/lang/UnsupportedOperationException" := by grind
    exact ok_some pf6
theorem s_X6_days_L31 {A : Nat → Nat → Nat → Prop} {B : SS} (p0 : Int32) (ip0 : (1 : Int32) ≤ p0 ∧ p0 ≤ (30 : Int32)) (a1 : A 0 0 12) (a2 : ∀ j, A 12 j 11) (a3 : ∀ j, A 12 j 16) (a4 : ∀ p, A 24 0 p) (a5 : ∀ j, A 9 j 3) : ∀ (n : Nat), ∀ (v7 : Int32) (v8 : Int32) (X9 : SS) (k4 : (Int32 → SS → Option (SS × (Int32 ⊕ String)))), (FD v7 n) → (((-1) : Int32) ≤ v7 ∧ v7 ≤ (7 : Int32)) → (IV A B X9) → (∀ (k_0 : Int32) (k_1 : SS), (IV A B k_1) → ok (k4 k_0 k_1) (fun r => IV A B r.1 ∧ se (fun v => True) (fun E => E = "java/lang/IllegalArgumentException") r.2)) → ok (f_X6_days_L31 p0 n v7 v8 X9 k4) (fun r => IV A B r.1 ∧ se (fun v => True) (fun E => E = "java/lang/IllegalArgumentException") r.2) := by
  intro n
  induction n with
  | zero =>
    intro v7 v8 X9 k4 hF iv7 hX9 hk
    exact (FD.stop hF (by grind)).elim
  | succ n ih =>
    intro v7 v8 X9 k4 hF iv7 hX9 hk
    rw [f_X6_days_L31]
    refine ok_ite (fun q1 => ?_) (fun q1 => ?_)
    · exact hk v8 X9 hX9
    · refine ok_gd ?_ (fun g2 => ?_)
      · exact vp_of (by decide) (by grind) (show v7 < (8 : Int32) by grind)
      have g2 := vp_to (by decide) g2
      have g2 : (0 : Int32) ≤ v7 ∧ v7 < (8 : Int32) := g2
      refine ok_lq (fun v12 eq_3 => ?_)
      refine ok_gd ?_ (fun g4 => ?_)
      · have c5 : (0 : Int32) ≤ (X9.1 24 0 (v7).toNatClampNeg) ∧ (X9.1 24 0 (v7).toNatClampNeg) ≤ (39 : Int32) := hX9.at1 24 0 ((v7).toNatClampNeg)
        exact vp_of (by decide) (by grind) (show v12 < (40 : Int32) by grind)
      have g4 := vp_to (by decide) g4
      have g4 : (0 : Int32) ≤ v12 ∧ v12 < (40 : Int32) := g4
      refine ok_lq (fun X14 eq_6 => ?_)
      have hX14 : IV A B X14 := by rw [eq_6]; exact hX9.w1f rfl (a3 ((v12).toNatClampNeg)) rfl
      refine ok_gd ?_ (fun g7 => ?_)
      · have c8 : (0 : Int32) ≤ (X9.1 24 0 (v7).toNatClampNeg) ∧ (X9.1 24 0 (v7).toNatClampNeg) ≤ (39 : Int32) := hX9.at1 24 0 ((v7).toNatClampNeg)
        exact vp_of (by decide) (by grind) (show v12 < (40 : Int32) by grind)
      have g7 := vp_to (by decide) g7
      have g7 : (0 : Int32) ≤ v12 ∧ v12 < (40 : Int32) := g7
      refine ok_ite (fun q9 => ?_) (fun q9 => ?_)
      · have c10 : (X14.1 12 (v12).toNatClampNeg 16) = ((X9.1 12 (v12).toNatClampNeg 16) - p0) := by rw [eq_6]; exact up_s
        have pf11 : FD (v7 + ((-1) : Int32)) n := by
          exact FD.step hF (by grind)
        have pf12 : ((-1) : Int32) ≤ (v7 + ((-1) : Int32)) ∧ (v7 + ((-1) : Int32)) ≤ (7 : Int32) := by
          exact ⟨by grind, by grind⟩
        exact ih (v7 + ((-1) : Int32)) v8 X14 k4 pf11 pf12 hX14 hk
      · have c13 : (X14.1 12 (v12).toNatClampNeg 16) = ((X9.1 12 (v12).toNatClampNeg 16) - p0) := by rw [eq_6]; exact up_s
        have pf14 : (0 : Int32) ≤ v12 ∧ v12 ≤ (39 : Int32) := by
          have c15 : (0 : Int32) ≤ (X9.1 24 0 (v7).toNatClampNeg) ∧ (X9.1 24 0 (v7).toNatClampNeg) ≤ (39 : Int32) := hX9.at1 24 0 ((v7).toNatClampNeg)
          have c16 : (X14.1 12 (v12).toNatClampNeg 16) = ((X9.1 12 (v12).toNatClampNeg 16) - p0) := by rw [eq_6]; exact up_s
          exact ⟨by grind, by grind⟩
        refine ok_b1 (s_X6_closeChallenge X14 hX14 v12 pf14 (a1) (fun p => a4 p)) (fun X18 v17 w17 => ?_)
        have hX18 : IV A B X18 := w17.1
        refine ok_gd ?_ (fun g18 => ?_)
        · have c19 : (0 : Int32) ≤ (X9.1 24 0 (v7).toNatClampNeg) ∧ (X9.1 24 0 (v7).toNatClampNeg) ≤ (39 : Int32) := hX9.at1 24 0 ((v7).toNatClampNeg)
          have c20 : (X14.1 12 (v12).toNatClampNeg 16) = ((X9.1 12 (v12).toNatClampNeg 16) - p0) := by rw [eq_6]; exact up_s
          exact vp_of (by decide) (by grind) (show v12 < (40 : Int32) by grind)
        have g18 := vp_to (by decide) g18
        have g18 : (0 : Int32) ≤ v12 ∧ v12 < (40 : Int32) := g18
        refine ok_lq (fun X21 eq_21 => ?_)
        have hX21 : IV A B X21 := by rw [eq_21]; exact hX18.w1 rfl (a2 ((v12).toNatClampNeg)) (show (0 : Int32) ≤ (98 : Int32) ∧ (98 : Int32) ≤ (65535 : Int32) from ⟨by decide, by decide⟩)
        refine ok_gd ?_ (fun g22 => ?_)
        · have c23 : (0 : Int32) ≤ (X9.1 24 0 (v7).toNatClampNeg) ∧ (X9.1 24 0 (v7).toNatClampNeg) ≤ (39 : Int32) := hX9.at1 24 0 ((v7).toNatClampNeg)
          have c24 : (X14.1 12 (v12).toNatClampNeg 16) = ((X9.1 12 (v12).toNatClampNeg 16) - p0) := by rw [eq_6]; exact up_s
          exact vp_of (by decide) (by grind) (show v12 < (40 : Int32) by grind)
        have g22 := vp_to (by decide) g22
        have g22 : (0 : Int32) ≤ v12 ∧ v12 < (40 : Int32) := g22
        refine ok_gd ?_ (fun g25 => ?_)
        · have c26 : (0 : Int32) ≤ (X21.1 12 (v12).toNatClampNeg 15) ∧ (X21.1 12 (v12).toNatClampNeg 15) ≤ (9 : Int32) := hX21.at1 12 ((v12).toNatClampNeg) 15
          have c27 : (X21.1 12 (v12).toNatClampNeg 15) = (X18.1 12 (v12).toNatClampNeg 15) := by rw [eq_21]; exact up_p (by decide)
          have c28 : (0 : Int32) ≤ (X9.1 24 0 (v7).toNatClampNeg) ∧ (X9.1 24 0 (v7).toNatClampNeg) ≤ (39 : Int32) := hX9.at1 24 0 ((v7).toNatClampNeg)
          have c29 : (X14.1 12 (v12).toNatClampNeg 16) = ((X9.1 12 (v12).toNatClampNeg 16) - p0) := by rw [eq_6]; exact up_s
          have c30 : (0 : Int32) ≤ (X18.1 12 (v12).toNatClampNeg 15) ∧ (X18.1 12 (v12).toNatClampNeg 15) ≤ (9 : Int32) := hX18.at1 12 ((v12).toNatClampNeg) 15
          exact vp_of (by decide) (by grind) (show (X21.1 12 (v12).toNatClampNeg 15) < (10 : Int32) by grind)
        have g25 := vp_to (by decide) g25
        have g25 : (0 : Int32) ≤ (X21.1 12 (v12).toNatClampNeg 15) ∧ (X21.1 12 (v12).toNatClampNeg 15) < (10 : Int32) := g25
        refine ok_lq (fun X24 eq_31 => ?_)
        have hX24 : IV A B X24 := by rw [eq_31]; exact hX21.w1f rfl (a5 (((X21.1 12 (v12).toNatClampNeg 15)).toNatClampNeg)) rfl
        have pf32 : FD (v7 + ((-1) : Int32)) n := by
          exact FD.step hF (by grind)
        have pf33 : ((-1) : Int32) ≤ (v7 + ((-1) : Int32)) ∧ (v7 + ((-1) : Int32)) ≤ (7 : Int32) := by
          exact ⟨by grind, by grind⟩
        exact ih (v7 + ((-1) : Int32)) (v8 + (1 : Int32)) X24 k4 pf32 pf33 hX24 hk