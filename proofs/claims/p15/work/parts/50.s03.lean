theorem s_X6_drop {A : Nat → Nat → Nat → Prop} {B : SS} (X : SS) (hX : IV A B X) (p0 : Int32) (a1 : ∀ j, 1 ≤ j → A 1 j 2) (a2 : ∀ j, A 12 j 11) (a3 : ∀ j, A 12 j 12) (a4 : ∀ j, A 12 j 13) (a5 : ∀ j, A 12 j 14) (a6 : ∀ j p, A 13 j p) (a7 : A 16 1 4) (a8 : A 16 1 5) (a9 : A 16 1 6) (a10 : A 16 1 7) (a11 : A 16 1 8) (a12 : ∀ p, A 17 1 p) (a13 : ∀ p, A 18 1 p) (a14 : ∀ p, A 19 1 p) (a15 : ∀ p, A 20 1 p) : ok (f_X6_drop X p0) (fun r => IV A B r.1 ∧ se (fun v => True) (fun E => E = "java/lang/IndexOutOfBoundsException" ∨ E = "java/lang/UnsupportedOperationException") r.2) := by
  unfold f_X6_drop
  refine ok_e0 (s_X6_workAt X hX p0) (fun i1 w1 => ?_) (fun E4 w1 => ?_)
  · refine ok_ite (fun q2 => ?_) (fun q2 => ?_)
    · have p3 : "java/lang/UnsupportedOperationException" = "java/lang/IndexOutOfBoundsException" ∨ "java/lang/UnsupportedOperationException" = "java/lang/UnsupportedOperationException" := by simp
      exact ok_some ⟨hX, p3⟩
    · refine ok_b1 (s_X6_dropBody X hX i1 a1 (a2 i1) (a3 i1) (a4 i1) (a5 i1) (fun p => a6 i1 p) (a7) (a8) (a9) (a10) (a11) (fun p => a12 p) (fun p => a13 p) (fun p => a14 p) (fun p => a15 p)) (fun X9 v8 w4 => ?_)
      have hX9 : IV A B X9 := w4.1
      refine ok_b0 (s_X6_bodyCount X9 hX9) (fun v11 w5 => ?_)
      exact ok_some ⟨hX9, trivial⟩
  · have w6 : E4 = "java/lang/IndexOutOfBoundsException" := w1
    have p7 : E4 = "java/lang/IndexOutOfBoundsException" ∨ E4 = "java/lang/UnsupportedOperationException" := by grind
    exact ok_some ⟨hX, p7⟩
theorem s_X6_capacity {A : Nat → Nat → Nat → Prop} {B : SS} (X : SS) (hX : IV A B X) (p0 : Int32) (a1 : A 0 0 13) (a2 : ∀ j, 1 ≤ j → A 1 j 2) (a3 : ∀ j, A 12 j 11) (a4 : ∀ j, A 12 j 12) (a5 : ∀ j, A 12 j 13) (a6 : ∀ j, A 12 j 14) (a7 : ∀ j p, A 13 j p) (a8 : A 16 1 4) (a9 : A 16 1 5) (a10 : A 16 1 6) (a11 : A 16 1 7) (a12 : A 16 1 8) (a13 : ∀ p, A 17 1 p) (a14 : ∀ p, A 18 1 p) (a15 : ∀ p, A 19 1 p) (a16 : ∀ p, A 20 1 p) : ok (f_X6_capacity X p0) (fun r => IV A B r.1 ∧ se (fun v => True) (fun E => E = "java/lang/IllegalArgumentException") r.2) := by
  unfold f_X6_capacity
  refine ok_ite (fun q1 => ?_) (fun q1 => ?_)
  · have p2 : "java/lang/IllegalArgumentException" = "java/lang/IllegalArgumentException" := by simp
    exact ok_some ⟨hX, p2⟩
  · refine ok_ite (fun q3 => ?_) (fun q3 => ?_)
    · refine ok_lq (fun X3 e4 => ?_)
      have p5 : (0 : Int32) ≤ p0 ∧ p0 ≤ (40 : Int32) := by
        exact ⟨by grind, by grind⟩
      have hX3 : IV A B X3 := by rw [e4]; exact hX.u1 rfl (a1) p5
      refine ok_b1 (s_X6_makeRoom X3 hX3 a2 a3 a4 a5 a6 a7 (a8) (a9) (a10) (a11) (a12) (fun p => a13 p) (fun p => a14 p) (fun p => a15 p) (fun p => a16 p)) (fun X5 v4 w6 => ?_)
      have hX5 : IV A B X5 := w6.1
      exact ok_some ⟨hX5, trivial⟩
    · have p7 : "java/lang/IllegalArgumentException" = "java/lang/IllegalArgumentException" := by simp
      exact ok_some ⟨hX, p7⟩
theorem s_X6_bodies {A : Nat → Nat → Nat → Prop} {B : SS} (X : SS) (hX : IV A B X) : ok (f_X6_bodies X) (fun r => True) := by
  unfold f_X6_bodies
  refine ok_b0 (s_X6_bodyCount X hX) (fun v1 w1 => ?_)
  exact ok_some trivial
theorem s_X6_read {A : Nat → Nat → Nat → Prop} {B : SS} (X : SS) (hX : IV A B X) (p0 : Int32) (p1 : Int32) (a1 : ∀ j, 1 ≤ j → A 1 j 2) (a2 : ∀ j p, A 11 j p) (a3 : ∀ j p, 1 ≤ j → A 2 j p) (a4 : ∀ j p, A 210 j p) (a5 : ∀ j p, 1 ≤ j → A 3 j p) (a6 : ∀ j, A 9 j 2) : ok (f_X6_read X p0 p1) (fun r => IV A B r.1 ∧ se (fun v => (0 : Int32) ≤ v ∧ v ≤ (3 : Int32)) (fun E => E = "java/lang/IndexOutOfBoundsException" ∨ E = "java/util/NoSuchElementException") r.2) := by
  unfold f_X6_read
  refine ok_e0 (s_X6_memberAt X hX p0) (fun i1 w1 => ?_) (fun E4 w1 => ?_)
  · have ni1 : i1 < 10 := w1
    refine ok_e0 (s_X6_workAt X hX p1) (fun i7 w2 => ?_) (fun E10 w2 => ?_)
    · refine ok_ite (fun q3 => ?_) (fun q3 => ?_)
      · have p4 : "java/util/NoSuchElementException" = "java/lang/IndexOutOfBoundsException" ∨ "java/util/NoSuchElementException" = "java/util/NoSuchElementException" := by simp
        exact ok_some ⟨hX, p4⟩
      · refine ok_b1 (s_X2_keepCopy X hX i1 ni1 p1 (i7 + 1) a1 (fun p => a2 i1 p) a3 (fun p => a4 i1 p) a5 (a6 i1)) (fun X15 v14 w5 => ?_)
        have hX15 : IV A B X15 := w5.1
        have p6 : (0 : Int32) ≤ (X15.1 9 i1 2) ∧ (X15.1 9 i1 2) ≤ (3 : Int32) := by
          have c7 : (0 : Int32) ≤ (X15.1 9 i1 2) ∧ (X15.1 9 i1 2) ≤ (3 : Int32) := hX15.at1 9 i1 2
          exact ⟨by grind, by grind⟩
        exact ok_some ⟨hX15, p6⟩
    · have w8 : E10 = "java/lang/IndexOutOfBoundsException" := w2
      have p9 : E10 = "java/lang/IndexOutOfBoundsException" ∨ E10 = "java/util/NoSuchElementException" := by grind
      exact ok_some ⟨hX, p9⟩
  · have w10 : E4 = "java/lang/IndexOutOfBoundsException" := w1
    have p11 : E4 = "java/lang/IndexOutOfBoundsException" ∨ E4 = "java/util/NoSuchElementException" := by grind
    exact ok_some ⟨hX, p11⟩
theorem s_X6_copy {A : Nat → Nat → Nat → Prop} {B : SS} (X : SS) (hX : IV A B X) (p0 : Int32) (p1 : Int32) : ok (f_X6_copy X p0 p1) (fun r => se (fun v => True) (fun E => E = "java/lang/IndexOutOfBoundsException" ∨ E = "java/util/NoSuchElementException") r) := by
  unfold f_X6_copy
  refine ok_e0 (s_X6_memberAt X hX p0) (fun i1 w1 => ?_) (fun E4 w1 => ?_)
  · have ni1 : i1 < 10 := w1
    refine ok_ite (fun q2 => ?_) (fun q2 => ?_)
    · have p3 : "java/util/NoSuchElementException" = "java/lang/IndexOutOfBoundsException" ∨ "java/util/NoSuchElementException" = "java/util/NoSuchElementException" := by simp
      exact ok_some p3
    · refine ok_ite (fun q4 => ?_) (fun q4 => ?_)
      · refine ok_gd ?_ (fun g5 => ?_)
        · have c6 : (0 : Int32) ≤ (X.1 9 i1 2) ∧ (X.1 9 i1 2) ≤ (3 : Int32) := hX.at1 9 i1 2
          exact vp_of (by decide) (by grind) (show p1 < (3 : Int32) by grind)
        have g5 := vp_to (by decide) g5
        have g5 : (0 : Int32) ≤ p1 ∧ p1 < (3 : Int32) := g5
        exact ok_some trivial
      · have p7 : "java/util/NoSuchElementException" = "java/lang/IndexOutOfBoundsException" ∨ "java/util/NoSuchElementException" = "java/util/NoSuchElementException" := by simp
        exact ok_some p7
  · have w8 : E4 = "java/lang/IndexOutOfBoundsException" := w1
    have p9 : E4 = "java/lang/IndexOutOfBoundsException" ∨ E4 = "java/util/NoSuchElementException" := by grind
    exact ok_some p9
theorem s_X6_isOpenToVoteOf {A : Nat → Nat → Nat → Prop} {B : SS} (X : SS) (hX : IV A B X) (p0 : Int32) (i2 : Nat) : ok (f_X6_isOpenToVoteOf X p0 i2) (fun r => (0 : Int32) ≤ r ∧ r ≤ (1 : Int32)) := by
  unfold f_X6_isOpenToVoteOf
  refine ok_ite (fun q1 => ?_) (fun q1 => ?_)
  · have p2 : (0 : Int32) ≤ (0 : Int32) ∧ (0 : Int32) ≤ (1 : Int32) := by
      exact ⟨by grind, by grind⟩
    exact ok_some p2
  · refine ok_ite (fun q3 => ?_) (fun q3 => ?_)
    · have p4 : (0 : Int32) ≤ (0 : Int32) ∧ (0 : Int32) ≤ (1 : Int32) := by
        exact ⟨by grind, by grind⟩
      exact ok_some p4
    · refine ok_ite (fun q5 => ?_) (fun q5 => ?_)
      · have p6 : (0 : Int32) ≤ (0 : Int32) ∧ (0 : Int32) ≤ (1 : Int32) := by
          exact ⟨by grind, by grind⟩
        exact ok_some p6
      · have p7 : (0 : Int32) ≤ (1 : Int32) ∧ (1 : Int32) ≤ (1 : Int32) := by
          exact ⟨by grind, by grind⟩
        exact ok_some p7
theorem s_X6_takeNone_L2 {A : Nat → Nat → Nat → Prop} {B : SS} (a1 : ∀ p, A 25 0 p) : ∀ (n : Nat), ∀ (v3 : Int32) (X4 : SS) (k1 : (SS → Option (SS × Unit))), (FU v3 8 n) → ((0 : Int32) ≤ v3 ∧ v3 ≤ (8 : Int32)) → (IV A B X4) → (∀ (k_0 : SS), (IV A B k_0) → ok (k1 k_0) (fun r => IV A B r.1 ∧ True)) → ok (f_X6_takeNone_L2 n v3 X4 k1) (fun r => IV A B r.1 ∧ True) := by
  intro n
  induction n with
  | zero =>
    intro v3 X4 k1 hF iv3 hX4 hk
    exact (FU.stop hF (show v3 ≤ (8 : Int32) by grind)).elim
  | succ n ih =>
    intro v3 X4 k1 hF iv3 hX4 hk
    rw [f_X6_takeNone_L2]
    refine ok_ite (fun q1 => ?_) (fun q1 => ?_)
    · exact hk X4 hX4
    · refine ok_gd ?_ (fun g2 => ?_)
      · exact vp_of (by decide) (by grind) (show v3 < (8 : Int32) by grind)
      have g2 := vp_to (by decide) g2
      have g2 : (0 : Int32) ≤ v3 ∧ v3 < (8 : Int32) := g2
      refine ok_lq (fun X7 e3 => ?_)
      have hX7 : IV A B X7 := by rw [e3]; exact hX4.u1 rfl (a1 ((v3).toNatClampNeg)) ⟨by decide, by decide⟩
      have p4 : FU (v3 + (1 : Int32)) 8 _ := by
        exact FU.step hF (by grind)
      have p5 : (0 : Int32) ≤ (v3 + (1 : Int32)) ∧ (v3 + (1 : Int32)) ≤ (8 : Int32) := by
        exact ⟨by grind, by grind⟩
      exact ih (v3 + (1 : Int32)) X7 k1 p4 p5 hX7 hk
theorem s_X6_takeNone {A : Nat → Nat → Nat → Prop} {B : SS} (X : SS) (hX : IV A B X) (a1 : ∀ p, A 25 0 p) : ok (f_X6_takeNone X) (fun r => IV A B r.1 ∧ True) := by
  unfold f_X6_takeNone
  have p1 : FU (0 : Int32) 8 1000 := by
    exact FU.start (by grind) (by decide)
  refine s_X6_takeNone_L2 (fun p => a1 p) 1000 (0 : Int32) X _ p1 ⟨by decide, by decide⟩ hX (fun X2 hX2 => ?_)
  exact ok_some ⟨hX2, trivial⟩
theorem s_X6_takeWorks_L6 {A : Nat → Nat → Nat → Prop} {B : SS} (p0 : Int32) (a1 : ∀ p, A 25 0 p) : ∀ (n : Nat), ∀ (v6 : Int32) (X7 : SS) (k4 : (SS → Option (SS × Unit))), (FU v6 40 n) → ((0 : Int32) ≤ v6 ∧ v6 ≤ (40 : Int32)) → (IV A B X7) → (∀ (k_0 : SS), (IV A B k_0) → ok (k4 k_0) (fun r => IV A B r.1 ∧ True)) → ok (f_X6_takeWorks_L6 p0 n v6 X7 k4) (fun r => IV A B r.1 ∧ True) := by
  intro n
  induction n with
  | zero =>
    intro v6 X7 k4 hF iv6 hX7 hk
    exact (FU.stop hF (show v6 ≤ (40 : Int32) by grind)).elim
  | succ n ih =>
    intro v6 X7 k4 hF iv6 hX7 hk
    rw [f_X6_takeWorks_L6]
    refine ok_ite (fun q1 => ?_) (fun q1 => ?_)
    · exact hk X7 hX7
    · refine ok_gd ?_ (fun g2 => ?_)
      · have c3 : (0 : Int32) ≤ (X7.1 0 0 11) ∧ (X7.1 0 0 11) ≤ (40 : Int32) := hX7.at1 0 0 11
        exact vp_of (by decide) (by grind) (show v6 < (40 : Int32) by grind)
      have g2 := vp_to (by decide) g2
      have g2 : (0 : Int32) ≤ v6 ∧ v6 < (40 : Int32) := g2
      refine ok_ite (fun q4 => ?_) (fun q4 => ?_)
      · refine ok_b0 (s_X5_isCounted X7 hX7 (v6).toNatClampNeg) (fun v11 w5 => ?_)
        have w6 : (0 : Int32) ≤ v11 ∧ v11 ≤ (1 : Int32) := w5
        refine ok_ite (fun q7 => ?_) (fun q7 => ?_)
        · have p8 : FU (v6 + (1 : Int32)) 40 _ := by
            have c9 : (0 : Int32) ≤ (X7.1 0 0 11) ∧ (X7.1 0 0 11) ≤ (40 : Int32) := hX7.at1 0 0 11
            have c10 : (0 : Int32) ≤ (X7.1 12 (v6).toNatClampNeg 7) ∧ (X7.1 12 (v6).toNatClampNeg 7) ≤ (9 : Int32) := hX7.at1 12 ((v6).toNatClampNeg) 7
            exact FU.step hF (by grind)
          have p11 : (0 : Int32) ≤ (v6 + (1 : Int32)) ∧ (v6 + (1 : Int32)) ≤ (40 : Int32) := by
            have c12 : (0 : Int32) ≤ (X7.1 0 0 11) ∧ (X7.1 0 0 11) ≤ (40 : Int32) := hX7.at1 0 0 11
            have c13 : (0 : Int32) ≤ (X7.1 12 (v6).toNatClampNeg 7) ∧ (X7.1 12 (v6).toNatClampNeg 7) ≤ (9 : Int32) := hX7.at1 12 ((v6).toNatClampNeg) 7
            exact ⟨by grind, by grind⟩
          exact ih (v6 + (1 : Int32)) X7 k4 p8 p11 hX7 hk
        · refine ok_gd ?_ (fun g14 => ?_)
          · have c15 : (0 : Int32) ≤ (X7.1 12 (v6).toNatClampNeg 8) ∧ (X7.1 12 (v6).toNatClampNeg 8) ≤ (7 : Int32) := hX7.at1 12 ((v6).toNatClampNeg) 8
            have c16 : (0 : Int32) ≤ (X7.1 0 0 11) ∧ (X7.1 0 0 11) ≤ (40 : Int32) := hX7.at1 0 0 11
            have c17 : (0 : Int32) ≤ (X7.1 12 (v6).toNatClampNeg 7) ∧ (X7.1 12 (v6).toNatClampNeg 7) ≤ (9 : Int32) := hX7.at1 12 ((v6).toNatClampNeg) 7
            exact vp_of (by decide) (by grind) (show (X7.1 12 (v6).toNatClampNeg 8) < (8 : Int32) by grind)
          have g14 := vp_to (by decide) g14
          have g14 : (0 : Int32) ≤ (X7.1 12 (v6).toNatClampNeg 8) ∧ (X7.1 12 (v6).toNatClampNeg 8) < (8 : Int32) := g14
          refine ok_lq (fun v15 e18 => ?_)
          refine ok_ite (fun q19 => ?_) (fun q19 => ?_)
          · refine ok_gd ?_ (fun g20 => ?_)
            · have c21 : (0 : Int32) ≤ (X7.1 12 (v6).toNatClampNeg 8) ∧ (X7.1 12 (v6).toNatClampNeg 8) ≤ (7 : Int32) := hX7.at1 12 ((v6).toNatClampNeg) 8
              have c22 : (0 : Int32) ≤ (X7.1 0 0 11) ∧ (X7.1 0 0 11) ≤ (40 : Int32) := hX7.at1 0 0 11
              have c23 : (0 : Int32) ≤ (X7.1 12 (v6).toNatClampNeg 7) ∧ (X7.1 12 (v6).toNatClampNeg 7) ≤ (9 : Int32) := hX7.at1 12 ((v6).toNatClampNeg) 7
              exact vp_of (by decide) (by grind) (show (X7.1 12 (v6).toNatClampNeg 8) < (8 : Int32) by grind)
            have g20 := vp_to (by decide) g20
            have g20 : (0 : Int32) ≤ (X7.1 12 (v6).toNatClampNeg 8) ∧ (X7.1 12 (v6).toNatClampNeg 8) < (8 : Int32) := g20
            refine ok_lq (fun X18 e24 => ?_)
            have p25 : ((-1) : Int32) ≤ v6 ∧ v6 ≤ (39 : Int32) := by
              have c26 : (0 : Int32) ≤ (X7.1 0 0 11) ∧ (X7.1 0 0 11) ≤ (40 : Int32) := hX7.at1 0 0 11
              have c27 : (0 : Int32) ≤ (X7.1 12 (v6).toNatClampNeg 7) ∧ (X7.1 12 (v6).toNatClampNeg 7) ≤ (9 : Int32) := hX7.at1 12 ((v6).toNatClampNeg) 7
              have c28 : (0 : Int32) ≤ (X7.1 12 (v6).toNatClampNeg 8) ∧ (X7.1 12 (v6).toNatClampNeg 8) ≤ (7 : Int32) := hX7.at1 12 ((v6).toNatClampNeg) 8
              exact ⟨by grind, by grind⟩
            have hX18 : IV A B X18 := by rw [e24]; exact hX7.u1 rfl (a1 (((X7.1 12 (v6).toNatClampNeg 8)).toNatClampNeg)) p25
            have p29 : FU (v6 + (1 : Int32)) 40 _ := by
              have c30 : (0 : Int32) ≤ (X7.1 0 0 11) ∧ (X7.1 0 0 11) ≤ (40 : Int32) := hX7.at1 0 0 11
              have c31 : (0 : Int32) ≤ (X7.1 12 (v6).toNatClampNeg 7) ∧ (X7.1 12 (v6).toNatClampNeg 7) ≤ (9 : Int32) := hX7.at1 12 ((v6).toNatClampNeg) 7
              have c32 : (0 : Int32) ≤ (X7.1 12 (v6).toNatClampNeg 8) ∧ (X7.1 12 (v6).toNatClampNeg 8) ≤ (7 : Int32) := hX7.at1 12 ((v6).toNatClampNeg) 8
              exact FU.step hF (by grind)
            have p33 : (0 : Int32) ≤ (v6 + (1 : Int32)) ∧ (v6 + (1 : Int32)) ≤ (40 : Int32) := by
              have c34 : (0 : Int32) ≤ (X7.1 0 0 11) ∧ (X7.1 0 0 11) ≤ (40 : Int32) := hX7.at1 0 0 11
              have c35 : (0 : Int32) ≤ (X7.1 12 (v6).toNatClampNeg 7) ∧ (X7.1 12 (v6).toNatClampNeg 7) ≤ (9 : Int32) := hX7.at1 12 ((v6).toNatClampNeg) 7
              have c36 : (0 : Int32) ≤ (X7.1 12 (v6).toNatClampNeg 8) ∧ (X7.1 12 (v6).toNatClampNeg 8) ≤ (7 : Int32) := hX7.at1 12 ((v6).toNatClampNeg) 8
              exact ⟨by grind, by grind⟩
            exact ih (v6 + (1 : Int32)) X18 k4 p29 p33 hX18 hk
          · refine ok_gd ?_ (fun g37 => ?_)
            · have c38 : ((-1) : Int32) ≤ (X7.1 25 0 ((X7.1 12 (v6).toNatClampNeg 8)).toNatClampNeg) ∧ (X7.1 25 0 ((X7.1 12 (v6).toNatClampNeg 8)).toNatClampNeg) ≤ (39 : Int32) := hX7.at1 25 0 (((X7.1 12 (v6).toNatClampNeg 8)).toNatClampNeg)
              have c39 : (0 : Int32) ≤ (X7.1 12 (v6).toNatClampNeg 8) ∧ (X7.1 12 (v6).toNatClampNeg 8) ≤ (7 : Int32) := hX7.at1 12 ((v6).toNatClampNeg) 8
              have c40 : (0 : Int32) ≤ (X7.1 0 0 11) ∧ (X7.1 0 0 11) ≤ (40 : Int32) := hX7.at1 0 0 11
              have c41 : (0 : Int32) ≤ (X7.1 12 (v6).toNatClampNeg 7) ∧ (X7.1 12 (v6).toNatClampNeg 7) ≤ (9 : Int32) := hX7.at1 12 ((v6).toNatClampNeg) 7
              exact vp_of (by decide) (by grind) (show v15 < (40 : Int32) by grind)
            have g37 := vp_to (by decide) g37
            have g37 : (0 : Int32) ≤ v15 ∧ v15 < (40 : Int32) := g37
            refine ok_b0 (s_X5_hasGreaterStyleThan X7 hX7 (v6).toNatClampNeg (v15).toNatClampNeg) (fun v20 w42 => ?_)
            have w43 : (0 : Int32) ≤ v20 ∧ v20 ≤ (1 : Int32) := w42
            refine ok_ite (fun q44 => ?_) (fun q44 => ?_)
            · have p45 : FU (v6 + (1 : Int32)) 40 _ := by
                have c46 : (0 : Int32) ≤ (X7.1 0 0 11) ∧ (X7.1 0 0 11) ≤ (40 : Int32) := hX7.at1 0 0 11
                have c47 : (0 : Int32) ≤ (X7.1 12 (v6).toNatClampNeg 7) ∧ (X7.1 12 (v6).toNatClampNeg 7) ≤ (9 : Int32) := hX7.at1 12 ((v6).toNatClampNeg) 7
                have c48 : (0 : Int32) ≤ (X7.1 12 (v6).toNatClampNeg 8) ∧ (X7.1 12 (v6).toNatClampNeg 8) ≤ (7 : Int32) := hX7.at1 12 ((v6).toNatClampNeg) 8
                exact FU.step hF (by grind)
              have p49 : (0 : Int32) ≤ (v6 + (1 : Int32)) ∧ (v6 + (1 : Int32)) ≤ (40 : Int32) := by
                have c50 : (0 : Int32) ≤ (X7.1 0 0 11) ∧ (X7.1 0 0 11) ≤ (40 : Int32) := hX7.at1 0 0 11
                have c51 : (0 : Int32) ≤ (X7.1 12 (v6).toNatClampNeg 7) ∧ (X7.1 12 (v6).toNatClampNeg 7) ≤ (9 : Int32) := hX7.at1 12 ((v6).toNatClampNeg) 7
                have c52 : (0 : Int32) ≤ (X7.1 12 (v6).toNatClampNeg 8) ∧ (X7.1 12 (v6).toNatClampNeg 8) ≤ (7 : Int32) := hX7.at1 12 ((v6).toNatClampNeg) 8
                exact ⟨by grind, by grind⟩
              exact ih (v6 + (1 : Int32)) X7 k4 p45 p49 hX7 hk
            · refine ok_gd ?_ (fun g53 => ?_)
              · have c54 : (0 : Int32) ≤ (X7.1 12 (v6).toNatClampNeg 8) ∧ (X7.1 12 (v6).toNatClampNeg 8) ≤ (7 : Int32) := hX7.at1 12 ((v6).toNatClampNeg) 8
                have c55 : (0 : Int32) ≤ (X7.1 0 0 11) ∧ (X7.1 0 0 11) ≤ (40 : Int32) := hX7.at1 0 0 11
                have c56 : (0 : Int32) ≤ (X7.1 12 (v6).toNatClampNeg 7) ∧ (X7.1 12 (v6).toNatClampNeg 7) ≤ (9 : Int32) := hX7.at1 12 ((v6).toNatClampNeg) 7
                exact vp_of (by decide) (by grind) (show (X7.1 12 (v6).toNatClampNeg 8) < (8 : Int32) by grind)
              have g53 := vp_to (by decide) g53
              have g53 : (0 : Int32) ≤ (X7.1 12 (v6).toNatClampNeg 8) ∧ (X7.1 12 (v6).toNatClampNeg 8) < (8 : Int32) := g53
              refine ok_lq (fun X24 e57 => ?_)
              have p58 : ((-1) : Int32) ≤ v6 ∧ v6 ≤ (39 : Int32) := by
                have c59 : (0 : Int32) ≤ (X7.1 0 0 11) ∧ (X7.1 0 0 11) ≤ (40 : Int32) := hX7.at1 0 0 11
                have c60 : (0 : Int32) ≤ (X7.1 12 (v6).toNatClampNeg 7) ∧ (X7.1 12 (v6).toNatClampNeg 7) ≤ (9 : Int32) := hX7.at1 12 ((v6).toNatClampNeg) 7
                have c61 : (0 : Int32) ≤ (X7.1 12 (v6).toNatClampNeg 8) ∧ (X7.1 12 (v6).toNatClampNeg 8) ≤ (7 : Int32) := hX7.at1 12 ((v6).toNatClampNeg) 8
                exact ⟨by grind, by grind⟩
              have hX24 : IV A B X24 := by rw [e57]; exact hX7.u1 rfl (a1 (((X7.1 12 (v6).toNatClampNeg 8)).toNatClampNeg)) p58
              have p62 : FU (v6 + (1 : Int32)) 40 _ := by
                have c63 : (0 : Int32) ≤ (X7.1 0 0 11) ∧ (X7.1 0 0 11) ≤ (40 : Int32) := hX7.at1 0 0 11
                have c64 : (0 : Int32) ≤ (X7.1 12 (v6).toNatClampNeg 7) ∧ (X7.1 12 (v6).toNatClampNeg 7) ≤ (9 : Int32) := hX7.at1 12 ((v6).toNatClampNeg) 7
                have c65 : (0 : Int32) ≤ (X7.1 12 (v6).toNatClampNeg 8) ∧ (X7.1 12 (v6).toNatClampNeg 8) ≤ (7 : Int32) := hX7.at1 12 ((v6).toNatClampNeg) 8
                exact FU.step hF (by grind)
              have p66 : (0 : Int32) ≤ (v6 + (1 : Int32)) ∧ (v6 + (1 : Int32)) ≤ (40 : Int32) := by
                have c67 : (0 : Int32) ≤ (X7.1 0 0 11) ∧ (X7.1 0 0 11) ≤ (40 : Int32) := hX7.at1 0 0 11
                have c68 : (0 : Int32) ≤ (X7.1 12 (v6).toNatClampNeg 7) ∧ (X7.1 12 (v6).toNatClampNeg 7) ≤ (9 : Int32) := hX7.at1 12 ((v6).toNatClampNeg) 7
                have c69 : (0 : Int32) ≤ (X7.1 12 (v6).toNatClampNeg 8) ∧ (X7.1 12 (v6).toNatClampNeg 8) ≤ (7 : Int32) := hX7.at1 12 ((v6).toNatClampNeg) 8
                exact ⟨by grind, by grind⟩
              exact ih (v6 + (1 : Int32)) X24 k4 p62 p66 hX24 hk
      · have p70 : FU (v6 + (1 : Int32)) 40 _ := by
          have c71 : (0 : Int32) ≤ (X7.1 0 0 11) ∧ (X7.1 0 0 11) ≤ (40 : Int32) := hX7.at1 0 0 11
          have c72 : (0 : Int32) ≤ (X7.1 12 (v6).toNatClampNeg 7) ∧ (X7.1 12 (v6).toNatClampNeg 7) ≤ (9 : Int32) := hX7.at1 12 ((v6).toNatClampNeg) 7
          exact FU.step hF (by grind)
        have p73 : (0 : Int32) ≤ (v6 + (1 : Int32)) ∧ (v6 + (1 : Int32)) ≤ (40 : Int32) := by
          have c74 : (0 : Int32) ≤ (X7.1 0 0 11) ∧ (X7.1 0 0 11) ≤ (40 : Int32) := hX7.at1 0 0 11
          have c75 : (0 : Int32) ≤ (X7.1 12 (v6).toNatClampNeg 7) ∧ (X7.1 12 (v6).toNatClampNeg 7) ≤ (9 : Int32) := hX7.at1 12 ((v6).toNatClampNeg) 7
          exact ⟨by grind, by grind⟩
        exact ih (v6 + (1 : Int32)) X7 k4 p70 p73 hX7 hk
theorem s_X6_takeWorks {A : Nat → Nat → Nat → Prop} {B : SS} (X : SS) (hX : IV A B X) (p0 : Int32) (a1 : ∀ p, A 25 0 p) : ok (f_X6_takeWorks X p0) (fun r => IV A B r.1 ∧ True) := by
  unfold f_X6_takeWorks
  refine ok_b1 (s_X6_takeNone X hX (fun p => a1 p)) (fun X2 v1 w1 => ?_)
  have hX2 : IV A B X2 := w1.1
  have p2 : FU (0 : Int32) 40 1000 := by
    exact FU.start (by grind) (by decide)
  refine s_X6_takeWorks_L6 p0 (fun p => a1 p) 1000 (0 : Int32) X2 _ p2 ⟨by decide, by decide⟩ hX2 (fun X5 hX5 => ?_)
  exact ok_some ⟨hX5, trivial⟩
theorem s_X6_takenPoints_L4 {A : Nat → Nat → Nat → Prop} {B : SS} (X : SS) (hX : IV A B X) : ∀ (n : Nat), ∀ (v4 : Int32) (v5 : UInt32) (k2 : (UInt32 → Option (UInt32))), (FU v4 8 n) → ((0 : Int32) ≤ v4 ∧ v4 ≤ (8 : Int32)) → (vf_n32 v5) → (∀ (k_0 : UInt32), (vf_n32 k_0) → ok (k2 k_0) (fun r => vf_n32 r)) → ok (f_X6_takenPoints_L4 X n v4 v5 k2) (fun r => vf_n32 r) := by
  intro n
  induction n with
  | zero =>
    intro v4 v5 k2 hF iv4 nv5 hk
    exact (FU.stop hF (show v4 ≤ (8 : Int32) by grind)).elim
  | succ n ih =>
    intro v4 v5 k2 hF iv4 nv5 hk
    rw [f_X6_takenPoints_L4]
    refine ok_ite (fun q1 => ?_) (fun q1 => ?_)
    · exact hk v5 nv5
    · refine ok_gd ?_ (fun g2 => ?_)
      · have c3 : (0 : Int32) ≤ (X.1 0 0 9) ∧ (X.1 0 0 9) ≤ (8 : Int32) := hX.at1 0 0 9
        exact vp_of (by decide) (by grind) (show v4 < (8 : Int32) by grind)
      have g2 := vp_to (by decide) g2
      have g2 : (0 : Int32) ≤ v4 ∧ v4 < (8 : Int32) := g2
      refine ok_lq (fun v8 e4 => ?_)
      refine ok_ite (fun q5 => ?_) (fun q5 => ?_)
      · have p6 : FU (v4 + (1 : Int32)) 8 _ := by
          have c7 : (0 : Int32) ≤ (X.1 0 0 9) ∧ (X.1 0 0 9) ≤ (8 : Int32) := hX.at1 0 0 9
          exact FU.step hF (by grind)
        have p8 : (0 : Int32) ≤ (v4 + (1 : Int32)) ∧ (v4 + (1 : Int32)) ≤ (8 : Int32) := by
          have c9 : (0 : Int32) ≤ (X.1 0 0 9) ∧ (X.1 0 0 9) ≤ (8 : Int32) := hX.at1 0 0 9
          exact ⟨by grind, by grind⟩
        exact ih (v4 + (1 : Int32)) v5 k2 p6 p8 nv5 hk
      · refine ok_gd ?_ (fun g10 => ?_)
        · have c11 : (0 : Int32) ≤ (X.1 0 0 9) ∧ (X.1 0 0 9) ≤ (8 : Int32) := hX.at1 0 0 9
          exact vp_of (by decide) (by grind) (show v4 < (8 : Int32) by grind)
        have g10 := vp_to (by decide) g10
        have g10 : (0 : Int32) ≤ v4 ∧ v4 < (8 : Int32) := g10
        refine ok_gd ?_ (fun g12 => ?_)
        · have c13 : ((-1) : Int32) ≤ (X.1 25 0 (v4).toNatClampNeg) ∧ (X.1 25 0 (v4).toNatClampNeg) ≤ (39 : Int32) := hX.at1 25 0 ((v4).toNatClampNeg)
          exact vp_of (by decide) (by grind) (show v8 < (40 : Int32) by grind)
        have g12 := vp_to (by decide) g12
        have g12 : (0 : Int32) ≤ v8 ∧ v8 < (40 : Int32) := g12
        refine ok_b0 (s_X5_styleAbove X hX (v8).toNatClampNeg) (fun v12 w14 => ?_)
        refine ok_lq (fun v14 e15 => ?_)
        refine ok_gd ?_ (fun g16 => ?_)
        · have c17 : ((-1) : Int32) ≤ (X.1 25 0 (v4).toNatClampNeg) ∧ (X.1 25 0 (v4).toNatClampNeg) ≤ (39 : Int32) := hX.at1 25 0 ((v4).toNatClampNeg)
          exact vp_of (by decide) (by grind) (show v8 < (40 : Int32) by grind)
        have g16 := vp_to (by decide) g16
        have g16 : (0 : Int32) ≤ v8 ∧ v8 < (40 : Int32) := g16
        refine ok_b0 (s_X5_styleUnder X hX (v8).toNatClampNeg) (fun v16 w18 => ?_)
        refine ok_ite (fun q19 => ?_) (fun q19 => ?_)
        · refine ok_gd ?_ (fun g20 => ?_)
          · exact nn_add0 nv5
          refine ok_lq (fun v23 e21 => ?_)
          have nv23 : vf_n32 v23 := by rw [e21]; exact nn_add0 nv5
          have p22 : FU (v4 + (1 : Int32)) 8 _ := by
            have c23 : (0 : Int32) ≤ (X.1 0 0 9) ∧ (X.1 0 0 9) ≤ (8 : Int32) := hX.at1 0 0 9
            exact FU.step hF (by grind)
          have p24 : (0 : Int32) ≤ (v4 + (1 : Int32)) ∧ (v4 + (1 : Int32)) ≤ (8 : Int32) := by
            have c25 : (0 : Int32) ≤ (X.1 0 0 9) ∧ (X.1 0 0 9) ≤ (8 : Int32) := hX.at1 0 0 9
            exact ⟨by grind, by grind⟩
          exact ih (v4 + (1 : Int32)) v23 k2 p22 p24 nv23 hk
        · refine ok_gd ?_ (fun g26 => ?_)
          · have z27 : ¬ (v16 = 0) := by
              grind
            exact nn_fdiv z27
          refine ok_gd ?_ (fun g28 => ?_)
          · have z29 : ¬ (v16 = 0) := by
              grind
            exact nn_addq nv5 z29
          refine ok_lq (fun v21 e30 => ?_)
          have nv21 : vf_n32 v21 := by rw [e30]; exact nn_addq nv5 z29
          have p31 : FU (v4 + (1 : Int32)) 8 _ := by
            have c32 : (0 : Int32) ≤ (X.1 0 0 9) ∧ (X.1 0 0 9) ≤ (8 : Int32) := hX.at1 0 0 9
            exact FU.step hF (by grind)
          have p33 : (0 : Int32) ≤ (v4 + (1 : Int32)) ∧ (v4 + (1 : Int32)) ≤ (8 : Int32) := by
            have c34 : (0 : Int32) ≤ (X.1 0 0 9) ∧ (X.1 0 0 9) ≤ (8 : Int32) := hX.at1 0 0 9
            exact ⟨by grind, by grind⟩
          exact ih (v4 + (1 : Int32)) v21 k2 p31 p33 nv21 hk
theorem s_X6_takenPoints {A : Nat → Nat → Nat → Prop} {B : SS} (X : SS) (hX : IV A B X) : ok (f_X6_takenPoints X) (fun r => vf_n32 r) := by
  unfold f_X6_takenPoints
  refine ok_lq (fun v1 e1 => ?_)
  have nv1 : vf_n32 v1 := by rw [e1]; exact nn_f0
  have p2 : FU (0 : Int32) 8 1000 := by
    exact FU.start (by grind) (by decide)
  refine s_X6_takenPoints_L4 X hX 1000 (0 : Int32) v1 _ p2 ⟨by decide, by decide⟩ nv1 (fun v3 nv3 => ?_)
  exact ok_some nv3
theorem s_X6_takenBelt_L46 (v2 : Int32) (v5 : UInt32) (nv5 : vf_n32 v5) : ∀ (n : Nat), ∀ (v9 : Int32) (v10 : Int32) (k7 : (Int32 → Option (Int32))), (FU v9 6 n) → ((1 : Int32) ≤ v9 ∧ v9 ≤ (6 : Int32)) → ((0 : Int32) ≤ v10 ∧ v10 ≤ (5 : Int32)) → (∀ (k_0 : Int32), ((0 : Int32) ≤ k_0 ∧ k_0 ≤ (5 : Int32)) → ok (k7 k_0) (fun r => (0 : Int32) ≤ r ∧ r ≤ (5 : Int32))) → ok (f_X6_takenBelt_L46 v2 v5 n v9 v10 k7) (fun r => (0 : Int32) ≤ r ∧ r ≤ (5 : Int32)) := by
  intro n
  induction n with
  | zero =>
    intro v9 v10 k7 hF iv9 iv10 hk
    exact (FU.stop hF (show v9 ≤ (6 : Int32) by grind)).elim
  | succ n ih =>
    intro v9 v10 k7 hF iv9 iv10 hk
    rw [f_X6_takenBelt_L46]
    refine ok_ite (fun q1 => ?_) (fun q1 => ?_)
    · have p2 : (0 : Int32) ≤ v10 ∧ v10 ≤ (5 : Int32) := by
        exact ⟨by grind, by grind⟩
      exact hk v10 p2
    · refine ok_ite (fun q3 => ?_) (fun q3 => ?_)
      · have p4 : FU (v9 + (1 : Int32)) 6 _ := by
          exact FU.step hF (by grind)
        have p5 : (1 : Int32) ≤ (v9 + (1 : Int32)) ∧ (v9 + (1 : Int32)) ≤ (6 : Int32) := by
          exact ⟨by grind, by grind⟩
        have p6 : (0 : Int32) ≤ v10 ∧ v10 ≤ (5 : Int32) := by
          exact ⟨by grind, by grind⟩
        exact ih (v9 + (1 : Int32)) v10 k7 p4 p5 p6 hk
      · refine ok_ite (fun q7 => ?_) (fun q7 => ?_)
        · have p8 : FU (v9 + (1 : Int32)) 6 _ := by
            exact FU.step hF (by grind)
          have p9 : (1 : Int32) ≤ (v9 + (1 : Int32)) ∧ (v9 + (1 : Int32)) ≤ (6 : Int32) := by
            exact ⟨by grind, by grind⟩
          have p10 : (0 : Int32) ≤ v10 ∧ v10 ≤ (5 : Int32) := by
            exact ⟨by grind, by grind⟩
          exact ih (v9 + (1 : Int32)) v10 k7 p8 p9 p10 hk
        · have p11 : FU (v9 + (1 : Int32)) 6 _ := by
            exact FU.step hF (by grind)
          have p12 : (1 : Int32) ≤ (v9 + (1 : Int32)) ∧ (v9 + (1 : Int32)) ≤ (6 : Int32) := by
            exact ⟨by grind, by grind⟩
          have p13 : (0 : Int32) ≤ v9 ∧ v9 ≤ (5 : Int32) := by
            exact ⟨by grind, by grind⟩
          exact ih (v9 + (1 : Int32)) v9 k7 p11 p12 p13 hk
theorem s_X6_takenBelt_L4 {A : Nat → Nat → Nat → Prop} {B : SS} (X : SS) (hX : IV A B X) : ∀ (n : Nat), ∀ (v3 : Int32) (v4 : Int32) (k1 : (Int32 → Option (Int32))), (FU v3 8 n) → ((0 : Int32) ≤ v3 ∧ v3 ≤ (8 : Int32)) → (∀ (k_0 : Int32), ok (k1 k_0) (fun r => (0 : Int32) ≤ r ∧ r ≤ (5 : Int32))) → ok (f_X6_takenBelt_L4 X n v3 v4 k1) (fun r => (0 : Int32) ≤ r ∧ r ≤ (5 : Int32)) := by
  intro n
  induction n with
  | zero =>
    intro v3 v4 k1 hF iv3 hk
    exact (FU.stop hF (show v3 ≤ (8 : Int32) by grind)).elim
  | succ n ih =>
    intro v3 v4 k1 hF iv3 hk
    rw [f_X6_takenBelt_L4]
    refine ok_ite (fun q1 => ?_) (fun q1 => ?_)
    · exact hk v4
    · refine ok_gd ?_ (fun g2 => ?_)
      · have c3 : (0 : Int32) ≤ (X.1 0 0 9) ∧ (X.1 0 0 9) ≤ (8 : Int32) := hX.at1 0 0 9
        exact vp_of (by decide) (by grind) (show v3 < (8 : Int32) by grind)
      have g2 := vp_to (by decide) g2
      have g2 : (0 : Int32) ≤ v3 ∧ v3 < (8 : Int32) := g2
      refine ok_ite (fun q4 => ?_) (fun q4 => ?_)
      · refine ok_lq (fun v18 e5 => ?_)
        have p6 : FU (v3 + (1 : Int32)) 8 _ := by
          have c7 : (0 : Int32) ≤ (X.1 0 0 9) ∧ (X.1 0 0 9) ≤ (8 : Int32) := hX.at1 0 0 9
          have c8 : ((-1) : Int32) ≤ (X.1 25 0 (v3).toNatClampNeg) ∧ (X.1 25 0 (v3).toNatClampNeg) ≤ (39 : Int32) := hX.at1 25 0 ((v3).toNatClampNeg)
          exact FU.step hF (by grind)
        have p9 : (0 : Int32) ≤ (v3 + (1 : Int32)) ∧ (v3 + (1 : Int32)) ≤ (8 : Int32) := by
          have c10 : (0 : Int32) ≤ (X.1 0 0 9) ∧ (X.1 0 0 9) ≤ (8 : Int32) := hX.at1 0 0 9
          have c11 : ((-1) : Int32) ≤ (X.1 25 0 (v3).toNatClampNeg) ∧ (X.1 25 0 (v3).toNatClampNeg) ≤ (39 : Int32) := hX.at1 25 0 ((v3).toNatClampNeg)
          exact ⟨by grind, by grind⟩
        exact ih (v3 + (1 : Int32)) v18 k1 p6 p9 hk
      · refine ok_lq (fun v17 e12 => ?_)
        have p13 : FU (v3 + (1 : Int32)) 8 _ := by
          have c14 : (0 : Int32) ≤ (X.1 0 0 9) ∧ (X.1 0 0 9) ≤ (8 : Int32) := hX.at1 0 0 9
          have c15 : ((-1) : Int32) ≤ (X.1 25 0 (v3).toNatClampNeg) ∧ (X.1 25 0 (v3).toNatClampNeg) ≤ (39 : Int32) := hX.at1 25 0 ((v3).toNatClampNeg)
          exact FU.step hF (by grind)
        have p16 : (0 : Int32) ≤ (v3 + (1 : Int32)) ∧ (v3 + (1 : Int32)) ≤ (8 : Int32) := by
          have c17 : (0 : Int32) ≤ (X.1 0 0 9) ∧ (X.1 0 0 9) ≤ (8 : Int32) := hX.at1 0 0 9
          have c18 : ((-1) : Int32) ≤ (X.1 25 0 (v3).toNatClampNeg) ∧ (X.1 25 0 (v3).toNatClampNeg) ≤ (39 : Int32) := hX.at1 25 0 ((v3).toNatClampNeg)
          exact ⟨by grind, by grind⟩
        exact ih (v3 + (1 : Int32)) v17 k1 p13 p16 hk
theorem s_X6_takenBelt {A : Nat → Nat → Nat → Prop} {B : SS} (X : SS) (hX : IV A B X) : ok (f_X6_takenBelt X) (fun r => (0 : Int32) ≤ r ∧ r ≤ (5 : Int32)) := by
  unfold f_X6_takenBelt
  have p1 : FU (0 : Int32) 8 1000 := by
    exact FU.start (by grind) (by decide)
  refine s_X6_takenBelt_L4 X hX 1000 (0 : Int32) (0 : Int32) _ p1 ⟨by decide, by decide⟩ (fun v2 => ?_)
  refine ok_b0 (s_X6_takenPoints X hX) (fun v5 w2 => ?_)
  have nv5 : vf_n32 v5 := w2
  have p3 : FU (1 : Int32) 6 1000 := by
    exact FU.start (by grind) (by decide)
  refine s_X6_takenBelt_L46 v2 v5 nv5 1000 (1 : Int32) (0 : Int32) _ p3 ⟨by decide, by decide⟩ ⟨by decide, by decide⟩ (fun v8 wv8 => ?_)
  have wv8 : (0 : Int32) ≤ v8 ∧ v8 ≤ (5 : Int32) := wv8
  have p4 : (0 : Int32) ≤ v8 ∧ v8 ≤ (5 : Int32) := by
    exact ⟨by grind, by grind⟩
  exact ok_some p4
theorem s_X6_beltOf {A : Nat → Nat → Nat → Prop} {B : SS} (X : SS) (hX : IV A B X) (p0 : Int32) (a1 : ∀ p, A 25 0 p) : ok (f_X6_beltOf X p0) (fun r => IV A B r.1 ∧ (0 : Int32) ≤ r.2 ∧ r.2 ≤ (5 : Int32)) := by
  unfold f_X6_beltOf
  refine ok_b1 (s_X6_takeWorks X hX p0 (fun p => a1 p)) (fun X2 v1 w1 => ?_)
  have hX2 : IV A B X2 := w1.1
  refine ok_b0 (s_X6_takenBelt X2 hX2) (fun v4 w2 => ?_)
  have w3 : (0 : Int32) ≤ v4 ∧ v4 ≤ (5 : Int32) := w2
  have p4 : (0 : Int32) ≤ v4 ∧ v4 ≤ (5 : Int32) := by
    exact ⟨by grind, by grind⟩
  exact ok_some ⟨hX2, p4⟩
theorem s_X6_vote {A : Nat → Nat → Nat → Prop} {B : SS} (X : SS) (hX : IV A B X) (p0 : Int32) (p1 : Int32) (p2 : Int32) (a1 : ∀ j, A 12 j 4) (a2 : ∀ j, A 12 j 5) (a3 : ∀ j, A 12 j 6) (a4 : ∀ j p, A 14 j p) (a5 : ∀ j p, A 15 j p) (a6 : ∀ p, A 25 0 p) : ok (f_X6_vote X p0 p1 p2) (fun r => IV A B r.1 ∧ se (fun v => (1 : Int32) ≤ v ∧ v ≤ (6 : Int32)) (fun E => E = "java/lang/IllegalArgumentException" ∨ E = "java/lang/IndexOutOfBoundsException" ∨ E = "java/lang/UnsupportedOperationException") r.2) := by
  unfold f_X6_vote
  refine ok_e0 (s_X6_memberAt X hX p0) (fun i1 w1 => ?_) (fun E4 w1 => ?_)
  · have ni1 : i1 < 10 := w1
    refine ok_e0 (s_X6_workAt X hX p1) (fun i7 w2 => ?_) (fun E10 w2 => ?_)
    · refine ok_ite (fun q3 => ?_) (fun q3 => ?_)
      · have p4 : "java/lang/IllegalArgumentException" = "java/lang/IllegalArgumentException" ∨ "java/lang/IllegalArgumentException" = "java/lang/IndexOutOfBoundsException" ∨ "java/lang/IllegalArgumentException" = "java/lang/UnsupportedOperationException" := by simp
        exact ok_some ⟨hX, p4⟩
      · refine ok_ite (fun q5 => ?_) (fun q5 => ?_)
        · refine ok_b0 (s_X6_isOpenToVoteOf X hX p0 i7) (fun v15 w6 => ?_)
          have w7 : (0 : Int32) ≤ v15 ∧ v15 ≤ (1 : Int32) := w6
          refine ok_ite (fun q8 => ?_) (fun q8 => ?_)
          · have p9 : "java/lang/UnsupportedOperationException" = "java/lang/IllegalArgumentException" ∨ "java/lang/UnsupportedOperationException" = "java/lang/IndexOutOfBoundsException" ∨ "java/lang/UnsupportedOperationException" = "java/lang/UnsupportedOperationException" := by simp
            exact ok_some ⟨hX, p9⟩
          · refine ok_b1 (s_X6_beltOf X hX p0 (fun p => a6 p)) (fun X19 v18 w10 => ?_)
            have hX19 : IV A B X19 := w10.1
            have w11 : (0 : Int32) ≤ v18 ∧ v18 ≤ (5 : Int32) := w10.2
            refine ok_lq (fun v21 e12 => ?_)
            have p13 : (1 : Int32) ≤ p2 ∧ p2 ≤ (5 : Int32) := by
              exact ⟨by grind, by grind⟩
            have p14 : (1 : Int32) ≤ v21 ∧ v21 ≤ (6 : Int32) := by
              exact ⟨by grind, by grind⟩
            refine ok_b1 (s_X5_takeVote X19 hX19 i7 p0 p2 p13 v21 p14 (a1 i7) (a2 i7) (a3 i7) (fun p => a4 i7 p) (fun p => a5 i7 p)) (fun X23 v22 w15 => ?_)
            have hX23 : IV A B X23 := w15.1
            have p16 : (1 : Int32) ≤ v21 ∧ v21 ≤ (6 : Int32) := by
              exact ⟨by grind, by grind⟩
            exact ok_some ⟨hX23, p16⟩
        · have p17 : "java/lang/IllegalArgumentException" = "java/lang/IllegalArgumentException" ∨ "java/lang/IllegalArgumentException" = "java/lang/IndexOutOfBoundsException" ∨ "java/lang/IllegalArgumentException" = "java/lang/UnsupportedOperationException" := by simp
          exact ok_some ⟨hX, p17⟩
    · have w18 : E10 = "java/lang/IndexOutOfBoundsException" := w2
      have p19 : E10 = "java/lang/IllegalArgumentException" ∨ E10 = "java/lang/IndexOutOfBoundsException" ∨ E10 = "java/lang/UnsupportedOperationException" := by grind
      exact ok_some ⟨hX, p19⟩
  · have w20 : E4 = "java/lang/IndexOutOfBoundsException" := w1
    have p21 : E4 = "java/lang/IllegalArgumentException" ∨ E4 = "java/lang/IndexOutOfBoundsException" ∨ E4 = "java/lang/UnsupportedOperationException" := by grind
    exact ok_some ⟨hX, p21⟩
theorem s_X6_commonDivisor_L7  : ∀ (n : Nat), ∀ (v3 : Int32) (v4 : Int32) (v5 : Int32) (k1 : (Int32 → Option (Int32))), (FU v3 100 n) → ((0 : Int32) ≤ v3 ∧ v3 ≤ (100 : Int32)) → (∀ (k_0 : Int32), ok (k1 k_0) (fun r => True)) → ok (f_X6_commonDivisor_L7 n v3 v4 v5 k1) (fun r => True) := by
  intro n
  induction n with
  | zero =>
    intro v3 v4 v5 k1 hF iv3 hk
    exact (FU.stop hF (show v3 ≤ (100 : Int32) by grind)).elim
  | succ n ih =>
    intro v3 v4 v5 k1 hF iv3 hk
    rw [f_X6_commonDivisor_L7]
    refine ok_ite (fun q1 => ?_) (fun q1 => ?_)
    · exact hk v5
    · refine ok_ite (fun q2 => ?_) (fun q2 => ?_)
      · exact hk v5
      · refine ok_gd ?_ (fun g3 => ?_)
        · grind
        refine ok_lq (fun v9 e4 => ?_)
        have p5 : FU (v3 + (1 : Int32)) 100 _ := by
          exact FU.step hF (by grind)
        have p6 : (0 : Int32) ≤ (v3 + (1 : Int32)) ∧ (v3 + (1 : Int32)) ≤ (100 : Int32) := by
          exact ⟨by grind, by grind⟩
        exact ih (v3 + (1 : Int32)) v9 v4 k1 p5 p6 hk
theorem s_X6_commonDivisor (p0 : Int32) (p1 : Int32) : ok (f_X6_commonDivisor p0 p1) (fun r => True) := by
  unfold f_X6_commonDivisor
  have p1 : FU (0 : Int32) 100 1000 := by
    exact FU.start (by grind) (by decide)
  refine s_X6_commonDivisor_L7 1000 (0 : Int32) p1 p0 _ p1 ⟨by decide, by decide⟩ (fun v2 => ?_)
  exact ok_some trivial
theorem s_X6_style {A : Nat → Nat → Nat → Prop} {B : SS} (X : SS) (hX : IV A B X) (p0 : Int32) (p1 : Int32) : ok (f_X6_style X p0 p1) (fun r => se (fun v => True) (fun E => E = "java/lang/IndexOutOfBoundsException") r) := by
  unfold f_X6_style
  refine ok_e0 (s_X6_workAt X hX p0) (fun i1 w1 => ?_) (fun E4 w1 => ?_)
  · refine ok_b0 (s_X5_styleAbove X hX i1) (fun v7 w2 => ?_)
    refine ok_b0 (s_X5_styleUnder X hX i1) (fun v9 w3 => ?_)
    refine ok_b0 (s_X6_commonDivisor v7 v9) (fun v11 w4 => ?_)
    refine ok_ite (fun q5 => ?_) (fun q5 => ?_)
    · unfold f_X6_style_J36
      refine ok_ite (fun q6 => ?_) (fun q6 => ?_)
      · refine ok_gd ?_ (fun g7 => ?_)
        · grind
        exact ok_some trivial
      · refine ok_gd ?_ (fun g8 => ?_)
        · grind
        exact ok_some trivial
    · unfold f_X6_style_J36
      refine ok_ite (fun q9 => ?_) (fun q9 => ?_)
      · refine ok_gd ?_ (fun g10 => ?_)
        · grind
        exact ok_some trivial
      · refine ok_gd ?_ (fun g11 => ?_)
        · grind
        exact ok_some trivial
  · have w12 : E4 = "java/lang/IndexOutOfBoundsException" := w1
    have p13 : E4 = "java/lang/IndexOutOfBoundsException" := by grind
    exact ok_some p13
theorem s_X6_isReviewedBefore {A : Nat → Nat → Nat → Prop} {B : SS} (X : SS) (hX : IV A B X) (i1 : Nat) (i2 : Nat) : ok (f_X6_isReviewedBefore X i1 i2) (fun r => (0 : Int32) ≤ r ∧ r ≤ (1 : Int32)) := by
  unfold f_X6_isReviewedBefore
  refine ok_ite (fun q1 => ?_) (fun q1 => ?_)
  · refine ok_gd ?_ (fun g2 => ?_)
    · have c3 : (0 : Int32) ≤ (X.1 12 i1 8) ∧ (X.1 12 i1 8) ≤ (7 : Int32) := hX.at1 12 i1 8
      exact vp_of (by decide) (by grind) (show (X.1 12 i1 8) < (8 : Int32) by grind)
    have g2 := vp_to (by decide) g2
    have g2 : (0 : Int32) ≤ (X.1 12 i1 8) ∧ (X.1 12 i1 8) < (8 : Int32) := g2
    refine ok_gd ?_ (fun g4 => ?_)
    · have c5 : (0 : Int32) ≤ (X.1 12 i2 8) ∧ (X.1 12 i2 8) ≤ (7 : Int32) := hX.at1 12 i2 8
      have c6 : (0 : Int32) ≤ (X.1 12 i1 8) ∧ (X.1 12 i1 8) ≤ (7 : Int32) := hX.at1 12 i1 8
      exact vp_of (by decide) (by grind) (show (X.1 12 i2 8) < (8 : Int32) by grind)
    have g4 := vp_to (by decide) g4
    have g4 : (0 : Int32) ≤ (X.1 12 i2 8) ∧ (X.1 12 i2 8) < (8 : Int32) := g4
    refine ok_ite (fun q7 => ?_) (fun q7 => ?_)
    · have p8 : (0 : Int32) ≤ (0 : Int32) ∧ (0 : Int32) ≤ (1 : Int32) := by
        exact ⟨by grind, by grind⟩
      exact ok_some p8
    · have p9 : (0 : Int32) ≤ (1 : Int32) ∧ (1 : Int32) ≤ (1 : Int32) := by
        exact ⟨by grind, by grind⟩
      exact ok_some p9
  · refine ok_ite (fun q10 => ?_) (fun q10 => ?_)
    · have p11 : (0 : Int32) ≤ (0 : Int32) ∧ (0 : Int32) ≤ (1 : Int32) := by
        exact ⟨by grind, by grind⟩
      exact ok_some p11
    · have p12 : (0 : Int32) ≤ (1 : Int32) ∧ (1 : Int32) ≤ (1 : Int32) := by
        exact ⟨by grind, by grind⟩
      exact ok_some p12
theorem s_X6_review_J50 {A : Nat → Nat → Nat → Prop} {B : SS} {n : Nat} (rc : Int32 → Int32 → (Int32 → Option ((Int32 ⊕ String))) → Option ((Int32 ⊕ String))) (hrc : ∀ (v9 : Int32) (v10 : Int32) (k7 : (Int32 → Option ((Int32 ⊕ String)))), (FU v9 40 n) → ((0 : Int32) ≤ v9 ∧ v9 ≤ (40 : Int32)) → (((-1) : Int32) ≤ v10 ∧ v10 ≤ (39 : Int32)) → (∀ (k_0 : Int32), (((-1) : Int32) ≤ k_0 ∧ k_0 ≤ (39 : Int32)) → ok (k7 k_0) (fun r => se (fun v => (0 : Int32) ≤ v ∧ v ≤ (39 : Int32)) (fun E => E = "java/lang/IndexOutOfBoundsException" ∨ E = "java/util/NoSuchElementException") r)) → ok (rc v9 v10 k7) (fun r => se (fun v => (0 : Int32) ≤ v ∧ v ≤ (39 : Int32)) (fun E => E = "java/lang/IndexOutOfBoundsException" ∨ E = "java/util/NoSuchElementException") r)) (k7 : Int32 → Option ((Int32 ⊕ String))) (hk : ∀ (k_0 : Int32), (((-1) : Int32) ≤ k_0 ∧ k_0 ≤ (39 : Int32)) → ok (k7 k_0) (fun r => se (fun v => (0 : Int32) ≤ v ∧ v ≤ (39 : Int32)) (fun E => E = "java/lang/IndexOutOfBoundsException" ∨ E = "java/util/NoSuchElementException") r)) (v9 : Int32) (iv9 : (0 : Int32) ≤ v9 ∧ v9 ≤ (39 : Int32)) (v10 : Int32) (iv10 : ((-1) : Int32) ≤ v10 ∧ v10 ≤ (39 : Int32)) (X : SS) (hX : IV A B X) (v16 : Int32) (iv16 : (0 : Int32) ≤ v16 ∧ v16 ≤ (1 : Int32)) (hF : FU v9 40 (n + 1)) : ok (f_X6_review_J50 rc k7 v9 v10 X v16) (fun r => se (fun v => (0 : Int32) ≤ v ∧ v ≤ (39 : Int32)) (fun E => E = "java/lang/IndexOutOfBoundsException" ∨ E = "java/util/NoSuchElementException") r) := by
  unfold f_X6_review_J50
  refine ok_ite (fun q1 => ?_) (fun q1 => ?_)
  · have p2 : FU (v9 + (1 : Int32)) 40 _ := by
      exact FU.step hF (by grind)
    have p3 : (0 : Int32) ≤ (v9 + (1 : Int32)) ∧ (v9 + (1 : Int32)) ≤ (40 : Int32) := by
      exact ⟨by grind, by grind⟩
    have p4 : ((-1) : Int32) ≤ v10 ∧ v10 ≤ (39 : Int32) := by
      exact ⟨by grind, by grind⟩
    exact hrc (v9 + (1 : Int32)) v10 k7 p2 p3 p4 hk
  · refine ok_ite (fun q5 => ?_) (fun q5 => ?_)
    · have p6 : FU (v9 + (1 : Int32)) 40 _ := by
        exact FU.step hF (by grind)
      have p7 : (0 : Int32) ≤ (v9 + (1 : Int32)) ∧ (v9 + (1 : Int32)) ≤ (40 : Int32) := by
        exact ⟨by grind, by grind⟩
      have p8 : ((-1) : Int32) ≤ v9 ∧ v9 ≤ (39 : Int32) := by
        exact ⟨by grind, by grind⟩
      exact hrc (v9 + (1 : Int32)) v9 k7 p6 p7 p8 hk
    · refine ok_gd ?_ (fun g9 => ?_)
      · exact vp_of (by decide) (by grind) (show v10 < (40 : Int32) by grind)
      have g9 := vp_to (by decide) g9
      have g9 : (0 : Int32) ≤ v10 ∧ v10 < (40 : Int32) := g9
      refine ok_b0 (s_X6_isReviewedBefore X hX (v9).toNatClampNeg (v10).toNatClampNeg) (fun v21 w10 => ?_)
      have w11 : (0 : Int32) ≤ v21 ∧ v21 ≤ (1 : Int32) := w10
      refine ok_ite (fun q12 => ?_) (fun q12 => ?_)
      · have p13 : FU (v9 + (1 : Int32)) 40 _ := by
          exact FU.step hF (by grind)
        have p14 : (0 : Int32) ≤ (v9 + (1 : Int32)) ∧ (v9 + (1 : Int32)) ≤ (40 : Int32) := by
          exact ⟨by grind, by grind⟩
        have p15 : ((-1) : Int32) ≤ v10 ∧ v10 ≤ (39 : Int32) := by
          exact ⟨by grind, by grind⟩
        exact hrc (v9 + (1 : Int32)) v10 k7 p13 p14 p15 hk
      · have p16 : FU (v9 + (1 : Int32)) 40 _ := by
          exact FU.step hF (by grind)
        have p17 : (0 : Int32) ≤ (v9 + (1 : Int32)) ∧ (v9 + (1 : Int32)) ≤ (40 : Int32) := by
          exact ⟨by grind, by grind⟩
        have p18 : ((-1) : Int32) ≤ v9 ∧ v9 ≤ (39 : Int32) := by
          exact ⟨by grind, by grind⟩
        exact hrc (v9 + (1 : Int32)) v9 k7 p16 p17 p18 hk
theorem s_X6_review_J49 {A : Nat → Nat → Nat → Prop} {B : SS} {n : Nat} (rc : Int32 → Int32 → (Int32 → Option ((Int32 ⊕ String))) → Option ((Int32 ⊕ String))) (hrc : ∀ (v9 : Int32) (v10 : Int32) (k7 : (Int32 → Option ((Int32 ⊕ String)))), (FU v9 40 n) → ((0 : Int32) ≤ v9 ∧ v9 ≤ (40 : Int32)) → (((-1) : Int32) ≤ v10 ∧ v10 ≤ (39 : Int32)) → (∀ (k_0 : Int32), (((-1) : Int32) ≤ k_0 ∧ k_0 ≤ (39 : Int32)) → ok (k7 k_0) (fun r => se (fun v => (0 : Int32) ≤ v ∧ v ≤ (39 : Int32)) (fun E => E = "java/lang/IndexOutOfBoundsException" ∨ E = "java/util/NoSuchElementException") r)) → ok (rc v9 v10 k7) (fun r => se (fun v => (0 : Int32) ≤ v ∧ v ≤ (39 : Int32)) (fun E => E = "java/lang/IndexOutOfBoundsException" ∨ E = "java/util/NoSuchElementException") r)) (k7 : Int32 → Option ((Int32 ⊕ String))) (hk : ∀ (k_0 : Int32), (((-1) : Int32) ≤ k_0 ∧ k_0 ≤ (39 : Int32)) → ok (k7 k_0) (fun r => se (fun v => (0 : Int32) ≤ v ∧ v ≤ (39 : Int32)) (fun E => E = "java/lang/IndexOutOfBoundsException" ∨ E = "java/util/NoSuchElementException") r)) (v9 : Int32) (iv9 : (0 : Int32) ≤ v9 ∧ v9 ≤ (39 : Int32)) (v10 : Int32) (iv10 : ((-1) : Int32) ≤ v10 ∧ v10 ≤ (39 : Int32)) (X : SS) (hX : IV A B X) (hF : FU v9 40 (n + 1)) : ok (f_X6_review_J49 rc k7 v9 v10 X) (fun r => se (fun v => (0 : Int32) ≤ v ∧ v ≤ (39 : Int32)) (fun E => E = "java/lang/IndexOutOfBoundsException" ∨ E = "java/util/NoSuchElementException") r) := by
  unfold f_X6_review_J49
  have p1 : (0 : Int32) ≤ v9 ∧ v9 ≤ (39 : Int32) := by
    exact ⟨by grind, by grind⟩
  have p2 : ((-1) : Int32) ≤ v10 ∧ v10 ≤ (39 : Int32) := by
    exact ⟨by grind, by grind⟩
  exact s_X6_review_J50 (n := _) rc hrc k7 hk v9 p1 v10 p2 X hX (0 : Int32) ⟨by decide, by decide⟩ hF
theorem s_X6_review_L10 {A : Nat → Nat → Nat → Prop} {B : SS} (X : SS) (hX : IV A B X) (p0 : Int32) : ∀ (n : Nat), ∀ (v9 : Int32) (v10 : Int32) (k7 : (Int32 → Option ((Int32 ⊕ String)))), (FU v9 40 n) → ((0 : Int32) ≤ v9 ∧ v9 ≤ (40 : Int32)) → (((-1) : Int32) ≤ v10 ∧ v10 ≤ (39 : Int32)) → (∀ (k_0 : Int32), (((-1) : Int32) ≤ k_0 ∧ k_0 ≤ (39 : Int32)) → ok (k7 k_0) (fun r => se (fun v => (0 : Int32) ≤ v ∧ v ≤ (39 : Int32)) (fun E => E = "java/lang/IndexOutOfBoundsException" ∨ E = "java/util/NoSuchElementException") r)) → ok (f_X6_review_L10 X p0 n v9 v10 k7) (fun r => se (fun v => (0 : Int32) ≤ v ∧ v ≤ (39 : Int32)) (fun E => E = "java/lang/IndexOutOfBoundsException" ∨ E = "java/util/NoSuchElementException") r) := by
  intro n
  induction n with
  | zero =>
    intro v9 v10 k7 hF iv9 iv10 hk
    exact (FU.stop hF (show v9 ≤ (40 : Int32) by grind)).elim
  | succ n ih =>
    intro v9 v10 k7 hF iv9 iv10 hk
    rw [f_X6_review_L10]
    refine ok_ite (fun q1 => ?_) (fun q1 => ?_)
    · have p2 : ((-1) : Int32) ≤ v10 ∧ v10 ≤ (39 : Int32) := by
        exact ⟨by grind, by grind⟩
      exact hk v10 p2
    · refine ok_gd ?_ (fun g3 => ?_)
      · have c4 : (0 : Int32) ≤ (X.1 0 0 11) ∧ (X.1 0 0 11) ≤ (40 : Int32) := hX.at1 0 0 11
        exact vp_of (by decide) (by grind) (show v9 < (40 : Int32) by grind)
      have g3 := vp_to (by decide) g3
      have g3 : (0 : Int32) ≤ v9 ∧ v9 < (40 : Int32) := g3
      refine ok_b0 (s_X6_isOpenToVoteOf X hX p0 (v9).toNatClampNeg) (fun v14 w5 => ?_)
      have w6 : (0 : Int32) ≤ v14 ∧ v14 ≤ (1 : Int32) := w5
      refine ok_ite (fun q7 => ?_) (fun q7 => ?_)
      · have p8 : (0 : Int32) ≤ v9 ∧ v9 ≤ (39 : Int32) := by
          have c9 : (0 : Int32) ≤ (X.1 0 0 11) ∧ (X.1 0 0 11) ≤ (40 : Int32) := hX.at1 0 0 11
          exact ⟨by grind, by grind⟩
        have p10 : ((-1) : Int32) ≤ v10 ∧ v10 ≤ (39 : Int32) := by
          exact ⟨by grind, by grind⟩
        exact s_X6_review_J49 (n := _) (f_X6_review_L10 X p0 n) ih k7 hk v9 p8 v10 p10 X hX hF
      · refine ok_gd ?_ (fun g11 => ?_)
        · exact vp_of (by decide) (by grind) (show p0 < (10 : Int32) by grind)
        have g11 := vp_to (by decide) g11
        have g11 : (0 : Int32) ≤ p0 ∧ p0 < (10 : Int32) := g11
        refine ok_ite (fun q12 => ?_) (fun q12 => ?_)
        · have p13 : (0 : Int32) ≤ v9 ∧ v9 ≤ (39 : Int32) := by
            have c14 : (0 : Int32) ≤ (X.1 0 0 11) ∧ (X.1 0 0 11) ≤ (40 : Int32) := hX.at1 0 0 11
            exact ⟨by grind, by grind⟩
          have p15 : ((-1) : Int32) ≤ v10 ∧ v10 ≤ (39 : Int32) := by
            exact ⟨by grind, by grind⟩
          exact s_X6_review_J50 (n := _) (f_X6_review_L10 X p0 n) ih k7 hk v9 p13 v10 p15 X hX (1 : Int32) ⟨by decide, by decide⟩ hF
        · have p16 : (0 : Int32) ≤ v9 ∧ v9 ≤ (39 : Int32) := by
            have c17 : (0 : Int32) ≤ (X.1 0 0 11) ∧ (X.1 0 0 11) ≤ (40 : Int32) := hX.at1 0 0 11
            exact ⟨by grind, by grind⟩
          have p18 : ((-1) : Int32) ≤ v10 ∧ v10 ≤ (39 : Int32) := by
            exact ⟨by grind, by grind⟩
          exact s_X6_review_J49 (n := _) (f_X6_review_L10 X p0 n) ih k7 hk v9 p16 v10 p18 X hX hF
theorem s_X6_review {A : Nat → Nat → Nat → Prop} {B : SS} (X : SS) (hX : IV A B X) (p0 : Int32) : ok (f_X6_review X p0) (fun r => se (fun v => (0 : Int32) ≤ v ∧ v ≤ (39 : Int32)) (fun E => E = "java/lang/IndexOutOfBoundsException" ∨ E = "java/util/NoSuchElementException") r) := by
  unfold f_X6_review
  refine ok_e0 (s_X6_memberAt X hX p0) (fun i1 w1 => ?_) (fun E4 w1 => ?_)
  · have ni1 : i1 < 10 := w1
    have p2 : FU (0 : Int32) 40 1000 := by
      exact FU.start (by grind) (by decide)
    refine s_X6_review_L10 X hX p0 1000 (0 : Int32) ((-1) : Int32) _ p2 ⟨by decide, by decide⟩ ⟨by decide, by decide⟩ (fun v8 wv8 => ?_)
    have wv8 : ((-1) : Int32) ≤ v8 ∧ v8 ≤ (39 : Int32) := wv8
    refine ok_ite (fun q3 => ?_) (fun q3 => ?_)
    · have p4 : "java/util/NoSuchElementException" = "java/lang/IndexOutOfBoundsException" ∨ "java/util/NoSuchElementException" = "java/util/NoSuchElementException" := by simp
      exact ok_some p4
    · have p5 : (0 : Int32) ≤ v8 ∧ v8 ≤ (39 : Int32) := by
        exact ⟨by grind, by grind⟩
      exact ok_some p5
  · have w6 : E4 = "java/lang/IndexOutOfBoundsException" := w1
    have p7 : E4 = "java/lang/IndexOutOfBoundsException" ∨ E4 = "java/util/NoSuchElementException" := by grind
    exact ok_some p7
theorem s_X6_best {A : Nat → Nat → Nat → Prop} {B : SS} (X : SS) (hX : IV A B X) (p0 : Int32) (p1 : Int32) (a1 : ∀ p, A 25 0 p) : ok (f_X6_best X p0 p1) (fun r => IV A B r.1 ∧ se (fun v => (0 : Int32) ≤ v ∧ v ≤ (39 : Int32)) (fun E => E = "java/lang/IndexOutOfBoundsException" ∨ E = "java/util/NoSuchElementException") r.2) := by
  unfold f_X6_best
  refine ok_e0 (s_X6_memberAt X hX p0) (fun i1 w1 => ?_) (fun E4 w1 => ?_)
  · have ni1 : i1 < 10 := w1
    refine ok_e0 (s_X6_kataAt X hX p1) (fun i7 w2 => ?_) (fun E10 w2 => ?_)
    · refine ok_b1 (s_X6_takeWorks X hX p0 (fun p => a1 p)) (fun X14 v13 w3 => ?_)
      have hX14 : IV A B X14 := w3.1
      refine ok_gd ?_ (fun g4 => ?_)
      · exact vp_of (by decide) (by grind) (show p1 < (8 : Int32) by grind)
      have g4 := vp_to (by decide) g4
      have g4 : (0 : Int32) ≤ p1 ∧ p1 < (8 : Int32) := g4
      refine ok_ite (fun q5 => ?_) (fun q5 => ?_)
      · have p6 : "java/util/NoSuchElementException" = "java/lang/IndexOutOfBoundsException" ∨ "java/util/NoSuchElementException" = "java/util/NoSuchElementException" := by simp
        exact ok_some ⟨hX14, p6⟩
      · refine ok_gd ?_ (fun g7 => ?_)
        · have c8 : ((-1) : Int32) ≤ (X14.1 25 0 (p1).toNatClampNeg) ∧ (X14.1 25 0 (p1).toNatClampNeg) ≤ (39 : Int32) := hX14.at1 25 0 ((p1).toNatClampNeg)
          exact vp_of (by decide) (by grind) (show p1 < (8 : Int32) by grind)
        have g7 := vp_to (by decide) g7
        have g7 : (0 : Int32) ≤ p1 ∧ p1 < (8 : Int32) := g7
        have p9 : (0 : Int32) ≤ (X14.1 25 0 (p1).toNatClampNeg) ∧ (X14.1 25 0 (p1).toNatClampNeg) ≤ (39 : Int32) := by
          have c10 : ((-1) : Int32) ≤ (X14.1 25 0 (p1).toNatClampNeg) ∧ (X14.1 25 0 (p1).toNatClampNeg) ≤ (39 : Int32) := hX14.at1 25 0 ((p1).toNatClampNeg)
          exact ⟨by grind, by grind⟩
        exact ok_some ⟨hX14, p9⟩
    · have w11 : E10 = "java/lang/IndexOutOfBoundsException" := w2
      have p12 : E10 = "java/lang/IndexOutOfBoundsException" ∨ E10 = "java/util/NoSuchElementException" := by grind
      exact ok_some ⟨hX, p12⟩
  · have w13 : E4 = "java/lang/IndexOutOfBoundsException" := w1
    have p14 : E4 = "java/lang/IndexOutOfBoundsException" ∨ E4 = "java/util/NoSuchElementException" := by grind
    exact ok_some ⟨hX, p14⟩
theorem s_X6_pointsOf {A : Nat → Nat → Nat → Prop} {B : SS} (X : SS) (hX : IV A B X) (p0 : Int32) (a1 : ∀ p, A 25 0 p) : ok (f_X6_pointsOf X p0) (fun r => IV A B r.1 ∧ vf_n32 r.2) := by
  unfold f_X6_pointsOf
  refine ok_b1 (s_X6_takeWorks X hX p0 (fun p => a1 p)) (fun X2 v1 w1 => ?_)
  have hX2 : IV A B X2 := w1.1
  refine ok_b0 (s_X6_takenPoints X2 hX2) (fun v4 w2 => ?_)
  have nv4 : vf_n32 v4 := w2
  exact ok_some ⟨hX2, nv4⟩
theorem s_X6_points {A : Nat → Nat → Nat → Prop} {B : SS} (X : SS) (hX : IV A B X) (p0 : Int32) (a1 : ∀ p, A 25 0 p) : ok (f_X6_points X p0) (fun r => IV A B r.1 ∧ se (fun v => vf_n32 v) (fun E => E = "java/lang/IndexOutOfBoundsException") r.2) := by
  unfold f_X6_points
  refine ok_e0 (s_X6_memberAt X hX p0) (fun i1 w1 => ?_) (fun E4 w1 => ?_)
  · have ni1 : i1 < 10 := w1
    refine ok_b1 (s_X6_pointsOf X hX p0 (fun p => a1 p)) (fun X8 v7 w2 => ?_)
    have hX8 : IV A B X8 := w2.1
    have nv7 : vf_n32 v7 := w2.2
    exact ok_some ⟨hX8, nv7⟩
  · have w3 : E4 = "java/lang/IndexOutOfBoundsException" := w1
    have p4 : E4 = "java/lang/IndexOutOfBoundsException" := by grind
    exact ok_some ⟨hX, p4⟩
theorem s_X6_belt {A : Nat → Nat → Nat → Prop} {B : SS} (X : SS) (hX : IV A B X) (p0 : Int32) (a1 : ∀ p, A 25 0 p) : ok (f_X6_belt X p0) (fun r => IV A B r.1 ∧ se (fun v => (0 : Int32) ≤ v ∧ v ≤ (5 : Int32)) (fun E => E = "java/lang/IndexOutOfBoundsException") r.2) := by
  unfold f_X6_belt
  refine ok_e0 (s_X6_memberAt X hX p0) (fun i1 w1 => ?_) (fun E4 w1 => ?_)
  · have ni1 : i1 < 10 := w1
    refine ok_b1 (s_X6_beltOf X hX p0 (fun p => a1 p)) (fun X8 v7 w2 => ?_)
    have hX8 : IV A B X8 := w2.1
    have w3 : (0 : Int32) ≤ v7 ∧ v7 ≤ (5 : Int32) := w2.2
    have p4 : (0 : Int32) ≤ v7 ∧ v7 ≤ (5 : Int32) := by
      exact ⟨by grind, by grind⟩
    exact ok_some ⟨hX8, p4⟩
  · have w5 : E4 = "java/lang/IndexOutOfBoundsException" := w1
    have p6 : E4 = "java/lang/IndexOutOfBoundsException" := by grind
    exact ok_some ⟨hX, p6⟩
theorem s_X6_honour {A : Nat → Nat → Nat → Prop} {B : SS} (X : SS) (hX : IV A B X) (p0 : Int32) : ok (f_X6_honour X p0) (fun r => se (fun v => True) (fun E => E = "java/lang/IndexOutOfBoundsException") r) := by
  unfold f_X6_honour
  refine ok_e0 (s_X6_memberAt X hX p0) (fun i1 w1 => ?_) (fun E4 w1 => ?_)
  · have ni1 : i1 < 10 := w1
    exact ok_some trivial
  · have w2 : E4 = "java/lang/IndexOutOfBoundsException" := w1
    have p3 : E4 = "java/lang/IndexOutOfBoundsException" := by grind
    exact ok_some p3
theorem s_X6_isRankedBefore {A : Nat → Nat → Nat → Prop} {B : SS} (X : SS) (hX : IV A B X) (p0 : Int32) (ip0 : (0 : Int32) ≤ p0 ∧ p0 ≤ (9 : Int32)) (p1 : Int32) (ip1 : (0 : Int32) ≤ p1 ∧ p1 ≤ (9 : Int32)) (a1 : ∀ p, A 25 0 p) : ok (f_X6_isRankedBefore X p0 p1) (fun r => IV A B r.1 ∧ (0 : Int32) ≤ r.2 ∧ r.2 ≤ (1 : Int32)) := by
  unfold f_X6_isRankedBefore
  refine ok_b1 (s_X6_beltOf X hX p0 (fun p => a1 p)) (fun X2 v1 w1 => ?_)
  have hX2 : IV A B X2 := w1.1
  have w2 : (0 : Int32) ≤ v1 ∧ v1 ≤ (5 : Int32) := w1.2
  refine ok_b1 (s_X6_beltOf X2 hX2 p1 (fun p => a1 p)) (fun X5 v4 w3 => ?_)
  have hX5 : IV A B X5 := w3.1
  have w4 : (0 : Int32) ≤ v4 ∧ v4 ≤ (5 : Int32) := w3.2
  refine ok_ite (fun q5 => ?_) (fun q5 => ?_)
  · refine ok_b1 (s_X6_pointsOf X5 hX5 p0 (fun p => a1 p)) (fun X9 v8 w6 => ?_)
    have hX9 : IV A B X9 := w6.1
    have nv8 : vf_n32 v8 := w6.2
    refine ok_b1 (s_X6_pointsOf X9 hX9 p1 (fun p => a1 p)) (fun X12 v11 w7 => ?_)
    have hX12 : IV A B X12 := w7.1
    have nv11 : vf_n32 v11 := w7.2
    refine ok_ite (fun q8 => ?_) (fun q8 => ?_)
    · refine ok_ite (fun q9 => ?_) (fun q9 => ?_)
      · have p10 : (0 : Int32) ≤ (0 : Int32) ∧ (0 : Int32) ≤ (1 : Int32) := by
          exact ⟨by grind, by grind⟩
        exact ok_some ⟨hX12, p10⟩
      · have p11 : (0 : Int32) ≤ (1 : Int32) ∧ (1 : Int32) ≤ (1 : Int32) := by
          exact ⟨by grind, by grind⟩
        exact ok_some ⟨hX12, p11⟩
    · refine ok_ite (fun q12 => ?_) (fun q12 => ?_)
      · have p13 : (0 : Int32) ≤ (0 : Int32) ∧ (0 : Int32) ≤ (1 : Int32) := by
          exact ⟨by grind, by grind⟩
        exact ok_some ⟨hX12, p13⟩
      · have p14 : (0 : Int32) ≤ (1 : Int32) ∧ (1 : Int32) ≤ (1 : Int32) := by
          exact ⟨by grind, by grind⟩
        exact ok_some ⟨hX12, p14⟩
  · refine ok_ite (fun q15 => ?_) (fun q15 => ?_)
    · have p16 : (0 : Int32) ≤ (0 : Int32) ∧ (0 : Int32) ≤ (1 : Int32) := by
        exact ⟨by grind, by grind⟩
      exact ok_some ⟨hX5, p16⟩
    · have p17 : (0 : Int32) ≤ (1 : Int32) ∧ (1 : Int32) ≤ (1 : Int32) := by
        exact ⟨by grind, by grind⟩
      exact ok_some ⟨hX5, p17⟩
theorem s_X6_ranked_L15 {A : Nat → Nat → Nat → Prop} {B : SS} (v3 : Int32) (iv3 : (0 : Int32) ≤ v3 ∧ v3 ≤ (9 : Int32)) (a1 : ∀ p, A 25 0 p) : ∀ (n : Nat), ∀ (v9 : Int32) (v10 : Int32) (X11 : SS) (k6 : (Int32 → SS → Option (SS × (Int32 ⊕ String)))), (FU v9 10 n) → ((0 : Int32) ≤ v9 ∧ v9 ≤ (10 : Int32)) → (IV A B X11) → (∀ (k_0 : Int32) (k_1 : SS), (IV A B k_1) → ok (k6 k_0 k_1) (fun r => IV A B r.1 ∧ se (fun v => (0 : Int32) ≤ v ∧ v ≤ (9 : Int32)) (fun E => E = "java/util/NoSuchElementException") r.2)) → ok (f_X6_ranked_L15 v3 n v9 v10 X11 k6) (fun r => IV A B r.1 ∧ se (fun v => (0 : Int32) ≤ v ∧ v ≤ (9 : Int32)) (fun E => E = "java/util/NoSuchElementException") r.2) := by
  intro n
  induction n with
  | zero =>
    intro v9 v10 X11 k6 hF iv9 hX11 hk
    exact (FU.stop hF (show v9 ≤ (10 : Int32) by grind)).elim
  | succ n ih =>
    intro v9 v10 X11 k6 hF iv9 hX11 hk
    rw [f_X6_ranked_L15]
    refine ok_ite (fun q1 => ?_) (fun q1 => ?_)
    · exact hk v10 X11 hX11
    · have p2 : (0 : Int32) ≤ v9 ∧ v9 ≤ (9 : Int32) := by
        have c3 : (0 : Int32) ≤ (X11.1 0 0 10) ∧ (X11.1 0 0 10) ≤ (10 : Int32) := hX11.at1 0 0 10
        exact ⟨by grind, by grind⟩
      have p4 : (0 : Int32) ≤ v3 ∧ v3 ≤ (9 : Int32) := by
        exact ⟨by grind, by grind⟩
      refine ok_b1 (s_X6_isRankedBefore X11 hX11 v9 p2 v3 p4 (fun p => a1 p)) (fun X15 v14 w5 => ?_)
      have hX15 : IV A B X15 := w5.1
      have w6 : (0 : Int32) ≤ v14 ∧ v14 ≤ (1 : Int32) := w5.2
      refine ok_ite (fun q7 => ?_) (fun q7 => ?_)
      · refine ok_lq (fun v18 e8 => ?_)
        have p9 : FU (v9 + (1 : Int32)) 10 _ := by
          have c10 : (0 : Int32) ≤ (X11.1 0 0 10) ∧ (X11.1 0 0 10) ≤ (10 : Int32) := hX11.at1 0 0 10
          exact FU.step hF (by grind)
        have p11 : (0 : Int32) ≤ (v9 + (1 : Int32)) ∧ (v9 + (1 : Int32)) ≤ (10 : Int32) := by
          have c12 : (0 : Int32) ≤ (X11.1 0 0 10) ∧ (X11.1 0 0 10) ≤ (10 : Int32) := hX11.at1 0 0 10
          exact ⟨by grind, by grind⟩
        exact ih (v9 + (1 : Int32)) v18 X15 k6 p9 p11 hX15 hk
      · refine ok_lq (fun v19 e13 => ?_)
        have p14 : FU (v9 + (1 : Int32)) 10 _ := by
          have c15 : (0 : Int32) ≤ (X11.1 0 0 10) ∧ (X11.1 0 0 10) ≤ (10 : Int32) := hX11.at1 0 0 10
          exact FU.step hF (by grind)
        have p16 : (0 : Int32) ≤ (v9 + (1 : Int32)) ∧ (v9 + (1 : Int32)) ≤ (10 : Int32) := by
          have c17 : (0 : Int32) ≤ (X11.1 0 0 10) ∧ (X11.1 0 0 10) ≤ (10 : Int32) := hX11.at1 0 0 10
          exact ⟨by grind, by grind⟩
        exact ih (v9 + (1 : Int32)) v19 X15 k6 p14 p16 hX15 hk
theorem s_X6_ranked_L2 {A : Nat → Nat → Nat → Prop} {B : SS} (p0 : Int32) (a1 : ∀ p, A 25 0 p) : ∀ (n : Nat), ∀ (v3 : Int32) (X4 : SS) (k1 : (SS → Option (SS × (Int32 ⊕ String)))), (FU v3 10 n) → ((0 : Int32) ≤ v3 ∧ v3 ≤ (10 : Int32)) → (IV A B X4) → (∀ (k_0 : SS), (IV A B k_0) → ok (k1 k_0) (fun r => IV A B r.1 ∧ se (fun v => (0 : Int32) ≤ v ∧ v ≤ (9 : Int32)) (fun E => E = "java/util/NoSuchElementException") r.2)) → ok (f_X6_ranked_L2 p0 n v3 X4 k1) (fun r => IV A B r.1 ∧ se (fun v => (0 : Int32) ≤ v ∧ v ≤ (9 : Int32)) (fun E => E = "java/util/NoSuchElementException") r.2) := by
  intro n
  induction n with
  | zero =>
    intro v3 X4 k1 hF iv3 hX4 hk
    exact (FU.stop hF (show v3 ≤ (10 : Int32) by grind)).elim
  | succ n ih =>
    intro v3 X4 k1 hF iv3 hX4 hk
    rw [f_X6_ranked_L2]
    refine ok_ite (fun q1 => ?_) (fun q1 => ?_)
    · exact hk X4 hX4
    · have p2 : (0 : Int32) ≤ v3 ∧ v3 ≤ (9 : Int32) := by
        have c3 : (0 : Int32) ≤ (X4.1 0 0 10) ∧ (X4.1 0 0 10) ≤ (10 : Int32) := hX4.at1 0 0 10
        exact ⟨by grind, by grind⟩
      have p4 : FU (0 : Int32) 10 1000 := by
        exact FU.start (by grind) (by decide)
      refine s_X6_ranked_L15 v3 p2 (fun p => a1 p) 1000 (0 : Int32) (0 : Int32) X4 _ p4 ⟨by decide, by decide⟩ hX4 (fun v7 X8 hX8 => ?_)
      refine ok_ite (fun q5 => ?_) (fun q5 => ?_)
      · have p6 : (0 : Int32) ≤ v3 ∧ v3 ≤ (9 : Int32) := by
          have c7 : (0 : Int32) ≤ (X4.1 0 0 10) ∧ (X4.1 0 0 10) ≤ (10 : Int32) := hX4.at1 0 0 10
          exact ⟨by grind, by grind⟩
        exact ok_some ⟨hX8, p6⟩
      · have p8 : FU (v3 + (1 : Int32)) 10 _ := by
          have c9 : (0 : Int32) ≤ (X4.1 0 0 10) ∧ (X4.1 0 0 10) ≤ (10 : Int32) := hX4.at1 0 0 10
          exact FU.step hF (by grind)
        have p10 : (0 : Int32) ≤ (v3 + (1 : Int32)) ∧ (v3 + (1 : Int32)) ≤ (10 : Int32) := by
          have c11 : (0 : Int32) ≤ (X4.1 0 0 10) ∧ (X4.1 0 0 10) ≤ (10 : Int32) := hX4.at1 0 0 10
          exact ⟨by grind, by grind⟩
        exact ih (v3 + (1 : Int32)) X8 k1 p8 p10 hX8 hk
theorem s_X6_ranked {A : Nat → Nat → Nat → Prop} {B : SS} (X : SS) (hX : IV A B X) (p0 : Int32) (a1 : ∀ p, A 25 0 p) : ok (f_X6_ranked X p0) (fun r => IV A B r.1 ∧ se (fun v => (0 : Int32) ≤ v ∧ v ≤ (9 : Int32)) (fun E => E = "java/util/NoSuchElementException") r.2) := by
  unfold f_X6_ranked
  have p1 : FU (0 : Int32) 10 1000 := by
    exact FU.start (by grind) (by decide)
  refine s_X6_ranked_L2 p0 (fun p => a1 p) 1000 (0 : Int32) X _ p1 ⟨by decide, by decide⟩ hX (fun X2 hX2 => ?_)
  have p2 : "java/util/NoSuchElementException" = "java/util/NoSuchElementException" := by simp
  exact ok_some ⟨hX2, p2⟩
theorem s_X6_challenge {A : Nat → Nat → Nat → Prop} {B : SS} (X : SS) (hX : IV A B X) (p0 : Int32) (p1 : Int32) (a1 : A 0 0 12) (a2 : ∀ j, A 12 j 11) (a3 : ∀ j, A 12 j 15) (a4 : ∀ j, A 12 j 16) (a5 : ∀ p, A 24 0 p) (a6 : ∀ j, A 9 j 3) : ok (f_X6_challenge X p0 p1) (fun r => IV A B r.1 ∧ se (fun v => (0 : Int32) ≤ v ∧ v ≤ (8 : Int32)) (fun E => E = "java/lang/IllegalStateException" ∨ E = "java/lang/IndexOutOfBoundsException" ∨ E = "java/lang/UnsupportedOperationException") r.2) := by
  unfold f_X6_challenge
  refine ok_e0 (s_X6_memberAt X hX p0) (fun i1 w1 => ?_) (fun E4 w1 => ?_)
  · have ni1 : i1 < 10 := w1
    refine ok_e0 (s_X6_workAt X hX p1) (fun i7 w2 => ?_) (fun E10 w2 => ?_)
    · refine ok_ite (fun q3 => ?_) (fun q3 => ?_)
      · have p4 : "java/lang/UnsupportedOperationException" = "java/lang/IllegalStateException" ∨ "java/lang/UnsupportedOperationException" = "java/lang/IndexOutOfBoundsException" ∨ "java/lang/UnsupportedOperationException" = "java/lang/UnsupportedOperationException" := by simp
        exact ok_some ⟨hX, p4⟩
      · refine ok_ite (fun q5 => ?_) (fun q5 => ?_)
        · refine ok_ite (fun q6 => ?_) (fun q6 => ?_)
          · refine ok_ite (fun q7 => ?_) (fun q7 => ?_)
            · refine ok_lq (fun X17 e8 => ?_)
              have hX17 : IV A B X17 := by rw [e8]; exact hX.u1f rfl (a6 i1) rfl
              refine ok_lq (fun X18 e9 => ?_)
              have hX18 : IV A B X18 := by rw [e9]; exact hX17.u1 rfl (a2 i7) ⟨by decide, by decide⟩
              refine ok_lq (fun X19 e10 => ?_)
              have p11 : (0 : Int32) ≤ p0 ∧ p0 ≤ (9 : Int32) := by
                have c12 : (0 : Int32) ≤ (X.1 12 i7 7) ∧ (X.1 12 i7 7) ≤ (9 : Int32) := hX.at1 12 i7 7
                have c13 : (0 : Int32) ≤ (X.1 12 i7 11) ∧ (X.1 12 i7 11) ≤ (65535 : Int32) := hX.at1 12 i7 11
                exact ⟨by grind, by grind⟩
              have hX19 : IV A B X19 := by rw [e10]; exact hX18.u1 rfl (a3 i7) p11
              refine ok_lq (fun X20 e14 => ?_)
              have hX20 : IV A B X20 := by rw [e14]; exact hX19.u1f rfl (a4 i7) rfl
              refine ok_gd ?_ (fun g15 => ?_)
              · have c16 : (0 : Int32) ≤ (X20.1 0 0 12) ∧ (X20.1 0 0 12) ≤ (8 : Int32) := hX20.at1 0 0 12
                have c17 : (X20.1 0 0 12) = (X19.1 0 0 12) := by rw [e14]; exact up_k (by decide)
                have c18 : (0 : Int32) ≤ (X19.1 0 0 12) ∧ (X19.1 0 0 12) ≤ (8 : Int32) := hX19.at1 0 0 12
                have c19 : (X19.1 0 0 12) = (X18.1 0 0 12) := by rw [e10]; exact up_k (by decide)
                have c20 : (0 : Int32) ≤ (X18.1 0 0 12) ∧ (X18.1 0 0 12) ≤ (8 : Int32) := hX18.at1 0 0 12
                have c21 : (X18.1 0 0 12) = (X17.1 0 0 12) := by rw [e9]; exact up_k (by decide)
                have c22 : (0 : Int32) ≤ (X17.1 0 0 12) ∧ (X17.1 0 0 12) ≤ (8 : Int32) := hX17.at1 0 0 12
                have c23 : (X17.1 0 0 12) = (X.1 0 0 12) := by rw [e8]; exact up_k (by decide)
                have c24 : (0 : Int32) ≤ (X.1 0 0 12) ∧ (X.1 0 0 12) ≤ (8 : Int32) := hX.at1 0 0 12
                exact vp_of (by decide) (by grind) (show (X20.1 0 0 12) < (8 : Int32) by grind)
              have g15 := vp_to (by decide) g15
              have g15 : (0 : Int32) ≤ (X20.1 0 0 12) ∧ (X20.1 0 0 12) < (8 : Int32) := g15
              refine ok_lq (fun X22 e25 => ?_)
              have p26 : (0 : Int32) ≤ p1 ∧ p1 ≤ (39 : Int32) := by
                exact ⟨by grind, by grind⟩
              have hX22 : IV A B X22 := by rw [e25]; exact hX20.u1 rfl (a5 (((X20.1 0 0 12)).toNatClampNeg)) p26
              refine ok_lq (fun X23 e27 => ?_)
              have p28 : (0 : Int32) ≤ ((X22.1 0 0 12) + (1 : Int32)) ∧ ((X22.1 0 0 12) + (1 : Int32)) ≤ (8 : Int32) := by
                have c29 : (0 : Int32) ≤ (X22.1 0 0 12) ∧ (X22.1 0 0 12) ≤ (8 : Int32) := hX22.at1 0 0 12
                have c30 : (X22.1 0 0 12) = (X20.1 0 0 12) := by rw [e25]; exact up_k (by decide)
                have c31 : (0 : Int32) ≤ (X20.1 0 0 12) ∧ (X20.1 0 0 12) ≤ (8 : Int32) := hX20.at1 0 0 12
                have c32 : (X20.1 0 0 12) = (X19.1 0 0 12) := by rw [e14]; exact up_k (by decide)
                have c33 : (0 : Int32) ≤ (X19.1 0 0 12) ∧ (X19.1 0 0 12) ≤ (8 : Int32) := hX19.at1 0 0 12
                have c34 : (X19.1 0 0 12) = (X18.1 0 0 12) := by rw [e10]; exact up_k (by decide)
                have c35 : (0 : Int32) ≤ (X18.1 0 0 12) ∧ (X18.1 0 0 12) ≤ (8 : Int32) := hX18.at1 0 0 12
                have c36 : (X18.1 0 0 12) = (X17.1 0 0 12) := by rw [e9]; exact up_k (by decide)
                have c37 : (0 : Int32) ≤ (X17.1 0 0 12) ∧ (X17.1 0 0 12) ≤ (8 : Int32) := hX17.at1 0 0 12
                have c38 : (X17.1 0 0 12) = (X.1 0 0 12) := by rw [e8]; exact up_k (by decide)
                have c39 : (0 : Int32) ≤ (X.1 0 0 12) ∧ (X.1 0 0 12) ≤ (8 : Int32) := hX.at1 0 0 12
                exact ⟨by grind, by grind⟩
              have hX23 : IV A B X23 := by rw [e27]; exact hX22.u1 rfl (a1) p28
              have p40 : (0 : Int32) ≤ (X23.1 0 0 12) ∧ (X23.1 0 0 12) ≤ (8 : Int32) := by
                have c41 : (0 : Int32) ≤ (X23.1 0 0 12) ∧ (X23.1 0 0 12) ≤ (8 : Int32) := hX23.at1 0 0 12
                have c42 : (X23.1 0 0 12) = ((X22.1 0 0 12) + (1 : Int32)) := by rw [e27]; exact up_s
                have c43 : (0 : Int32) ≤ (X22.1 0 0 12) ∧ (X22.1 0 0 12) ≤ (8 : Int32) := hX22.at1 0 0 12
                have c44 : (X22.1 0 0 12) = (X20.1 0 0 12) := by rw [e25]; exact up_k (by decide)
                have c45 : (0 : Int32) ≤ (X20.1 0 0 12) ∧ (X20.1 0 0 12) ≤ (8 : Int32) := hX20.at1 0 0 12
                have c46 : (X20.1 0 0 12) = (X19.1 0 0 12) := by rw [e14]; exact up_k (by decide)
                have c47 : (0 : Int32) ≤ (X19.1 0 0 12) ∧ (X19.1 0 0 12) ≤ (8 : Int32) := hX19.at1 0 0 12
                have c48 : (X19.1 0 0 12) = (X18.1 0 0 12) := by rw [e10]; exact up_k (by decide)
                have c49 : (0 : Int32) ≤ (X18.1 0 0 12) ∧ (X18.1 0 0 12) ≤ (8 : Int32) := hX18.at1 0 0 12
                have c50 : (X18.1 0 0 12) = (X17.1 0 0 12) := by rw [e9]; exact up_k (by decide)
                have c51 : (0 : Int32) ≤ (X17.1 0 0 12) ∧ (X17.1 0 0 12) ≤ (8 : Int32) := hX17.at1 0 0 12
                have c52 : (X17.1 0 0 12) = (X.1 0 0 12) := by rw [e8]; exact up_k (by decide)
                have c53 : (0 : Int32) ≤ (X.1 0 0 12) ∧ (X.1 0 0 12) ≤ (8 : Int32) := hX.at1 0 0 12
                exact ⟨by grind, by grind⟩
              exact ok_some ⟨hX23, p40⟩
            · have p54 : "java/lang/IllegalStateException" = "java/lang/IllegalStateException" ∨ "java/lang/IllegalStateException" = "java/lang/IndexOutOfBoundsException" ∨ "java/lang/IllegalStateException" = "java/lang/UnsupportedOperationException" := by simp
              exact ok_some ⟨hX, p54⟩
          · have p55 : "java/lang/UnsupportedOperationException" = "java/lang/IllegalStateException" ∨ "java/lang/UnsupportedOperationException" = "java/lang/IndexOutOfBoundsException" ∨ "java/lang/UnsupportedOperationException" = "java/lang/UnsupportedOperationException" := by simp
            exact ok_some ⟨hX, p55⟩
        · have p56 : "java/lang/UnsupportedOperationException" = "java/lang/IllegalStateException" ∨ "java/lang/UnsupportedOperationException" = "java/lang/IndexOutOfBoundsException" ∨ "java/lang/UnsupportedOperationException" = "java/lang/UnsupportedOperationException" := by simp
          exact ok_some ⟨hX, p56⟩
    · have w57 : E10 = "java/lang/IndexOutOfBoundsException" := w2
      have p58 : E10 = "java/lang/IllegalStateException" ∨ E10 = "java/lang/IndexOutOfBoundsException" ∨ E10 = "java/lang/UnsupportedOperationException" := by grind
      exact ok_some ⟨hX, p58⟩
  · have w59 : E4 = "java/lang/IndexOutOfBoundsException" := w1
    have p60 : E4 = "java/lang/IllegalStateException" ∨ E4 = "java/lang/IndexOutOfBoundsException" ∨ E4 = "java/lang/UnsupportedOperationException" := by grind
    exact ok_some ⟨hX, p60⟩
theorem s_X6_closeChallenge_L4 {A : Nat → Nat → Nat → Prop} {B : SS} (p0 : Int32) (ip0 : (0 : Int32) ≤ p0 ∧ p0 ≤ (39 : Int32)) (a1 : ∀ p, A 24 0 p) : ∀ (n : Nat), ∀ (v4 : Int32) (v5 : Int32) (X6 : SS) (k1 : (Int32 → SS → Option (SS × Unit))), (FU v4 8 n) → ((0 : Int32) ≤ v4 ∧ v4 ≤ (8 : Int32)) → ((0 : Int32) ≤ v5 ∧ v5 ≤ (8 : Int32)) → (IV A B X6) → (v5 ≤ v4) → (∀ (k_0 : Int32) (k_1 : SS), ((0 : Int32) ≤ k_0 ∧ k_0 ≤ (8 : Int32)) → (IV A B k_1) → ok (k1 k_0 k_1) (fun r => IV A B r.1 ∧ True)) → ok (f_X6_closeChallenge_L4 p0 n v4 v5 X6 k1) (fun r => IV A B r.1 ∧ True) := by
  intro n
  induction n with
  | zero =>
    intro v4 v5 X6 k1 hF iv4 iv5 hX6 x0 hk
    exact (FU.stop hF (show v4 ≤ (8 : Int32) by grind)).elim
  | succ n ih =>
    intro v4 v5 X6 k1 hF iv4 iv5 hX6 x0 hk
    rw [f_X6_closeChallenge_L4]
    refine ok_ite (fun q1 => ?_) (fun q1 => ?_)
    · have p2 : (0 : Int32) ≤ v5 ∧ v5 ≤ (8 : Int32) := by
        exact ⟨by grind, by grind⟩
      exact hk v5 X6 p2 hX6
    · refine ok_gd ?_ (fun g3 => ?_)
      · have c4 : (0 : Int32) ≤ (X6.1 0 0 12) ∧ (X6.1 0 0 12) ≤ (8 : Int32) := hX6.at1 0 0 12
        exact vp_of (by decide) (by grind) (show v4 < (8 : Int32) by grind)
      have g3 := vp_to (by decide) g3
      have g3 : (0 : Int32) ≤ v4 ∧ v4 < (8 : Int32) := g3
      refine ok_ite (fun q5 => ?_) (fun q5 => ?_)
      · have p6 : FU (v4 + (1 : Int32)) 8 _ := by
          have c7 : (0 : Int32) ≤ (X6.1 0 0 12) ∧ (X6.1 0 0 12) ≤ (8 : Int32) := hX6.at1 0 0 12
          have c8 : (0 : Int32) ≤ (X6.1 24 0 (v4).toNatClampNeg) ∧ (X6.1 24 0 (v4).toNatClampNeg) ≤ (39 : Int32) := hX6.at1 24 0 ((v4).toNatClampNeg)
          exact FU.step hF (by grind)
        have p9 : (0 : Int32) ≤ (v4 + (1 : Int32)) ∧ (v4 + (1 : Int32)) ≤ (8 : Int32) := by
          have c10 : (0 : Int32) ≤ (X6.1 0 0 12) ∧ (X6.1 0 0 12) ≤ (8 : Int32) := hX6.at1 0 0 12
          have c11 : (0 : Int32) ≤ (X6.1 24 0 (v4).toNatClampNeg) ∧ (X6.1 24 0 (v4).toNatClampNeg) ≤ (39 : Int32) := hX6.at1 24 0 ((v4).toNatClampNeg)
          exact ⟨by grind, by grind⟩
        have p12 : (0 : Int32) ≤ v5 ∧ v5 ≤ (8 : Int32) := by
          exact ⟨by grind, by grind⟩
        have p13 : v5 ≤ (v4 + (1 : Int32)) := by
          have c14 : (0 : Int32) ≤ (X6.1 0 0 12) ∧ (X6.1 0 0 12) ≤ (8 : Int32) := hX6.at1 0 0 12
          have c15 : (0 : Int32) ≤ (X6.1 24 0 (v4).toNatClampNeg) ∧ (X6.1 24 0 (v4).toNatClampNeg) ≤ (39 : Int32) := hX6.at1 24 0 ((v4).toNatClampNeg)
          grind
        exact ih (v4 + (1 : Int32)) v5 X6 k1 p6 p9 p12 hX6 p13 hk
      · refine ok_gd ?_ (fun g16 => ?_)
        · have c17 : (0 : Int32) ≤ (X6.1 0 0 12) ∧ (X6.1 0 0 12) ≤ (8 : Int32) := hX6.at1 0 0 12
          have c18 : (0 : Int32) ≤ (X6.1 24 0 (v4).toNatClampNeg) ∧ (X6.1 24 0 (v4).toNatClampNeg) ≤ (39 : Int32) := hX6.at1 24 0 ((v4).toNatClampNeg)
          exact vp_of (by decide) (by grind) (show v4 < (8 : Int32) by grind)
        have g16 := vp_to (by decide) g16
        have g16 : (0 : Int32) ≤ v4 ∧ v4 < (8 : Int32) := g16
        refine ok_gd ?_ (fun g19 => ?_)
        · exact vp_of (by decide) (by grind) (show v5 < (8 : Int32) by grind)
        have g19 := vp_to (by decide) g19
        have g19 : (0 : Int32) ≤ v5 ∧ v5 < (8 : Int32) := g19
        refine ok_lq (fun X13 e20 => ?_)
        have p21 : (0 : Int32) ≤ (X6.1 24 0 (v4).toNatClampNeg) ∧ (X6.1 24 0 (v4).toNatClampNeg) ≤ (39 : Int32) := by
          have c22 : (0 : Int32) ≤ (X6.1 24 0 (v4).toNatClampNeg) ∧ (X6.1 24 0 (v4).toNatClampNeg) ≤ (39 : Int32) := hX6.at1 24 0 ((v4).toNatClampNeg)
          have c23 : (0 : Int32) ≤ (X6.1 0 0 12) ∧ (X6.1 0 0 12) ≤ (8 : Int32) := hX6.at1 0 0 12
          exact ⟨by grind, by grind⟩
        have hX13 : IV A B X13 := by rw [e20]; exact hX6.u1 rfl (a1 ((v5).toNatClampNeg)) p21
        have p24 : FU (v4 + (1 : Int32)) 8 _ := by
          have c25 : (0 : Int32) ≤ (X6.1 0 0 12) ∧ (X6.1 0 0 12) ≤ (8 : Int32) := hX6.at1 0 0 12
          have c26 : (0 : Int32) ≤ (X6.1 24 0 (v4).toNatClampNeg) ∧ (X6.1 24 0 (v4).toNatClampNeg) ≤ (39 : Int32) := hX6.at1 24 0 ((v4).toNatClampNeg)
          exact FU.step hF (by grind)
        have p27 : (0 : Int32) ≤ (v4 + (1 : Int32)) ∧ (v4 + (1 : Int32)) ≤ (8 : Int32) := by
          have c28 : (0 : Int32) ≤ (X6.1 0 0 12) ∧ (X6.1 0 0 12) ≤ (8 : Int32) := hX6.at1 0 0 12
          have c29 : (0 : Int32) ≤ (X6.1 24 0 (v4).toNatClampNeg) ∧ (X6.1 24 0 (v4).toNatClampNeg) ≤ (39 : Int32) := hX6.at1 24 0 ((v4).toNatClampNeg)
          exact ⟨by grind, by grind⟩
        have p30 : (0 : Int32) ≤ (v5 + (1 : Int32)) ∧ (v5 + (1 : Int32)) ≤ (8 : Int32) := by
          exact ⟨by grind, by grind⟩
        have p31 : (v5 + (1 : Int32)) ≤ (v4 + (1 : Int32)) := by
          have c32 : (0 : Int32) ≤ (X6.1 0 0 12) ∧ (X6.1 0 0 12) ≤ (8 : Int32) := hX6.at1 0 0 12
          have c33 : (0 : Int32) ≤ (X6.1 24 0 (v4).toNatClampNeg) ∧ (X6.1 24 0 (v4).toNatClampNeg) ≤ (39 : Int32) := hX6.at1 24 0 ((v4).toNatClampNeg)
          grind
        exact ih (v4 + (1 : Int32)) (v5 + (1 : Int32)) X13 k1 p24 p27 p30 hX13 p31 hk
theorem s_X6_closeChallenge {A : Nat → Nat → Nat → Prop} {B : SS} (X : SS) (hX : IV A B X) (p0 : Int32) (ip0 : (0 : Int32) ≤ p0 ∧ p0 ≤ (39 : Int32)) (a1 : A 0 0 12) (a2 : ∀ p, A 24 0 p) : ok (f_X6_closeChallenge X p0) (fun r => IV A B r.1 ∧ True) := by
  unfold f_X6_closeChallenge
  have p1 : (0 : Int32) ≤ p0 ∧ p0 ≤ (39 : Int32) := by
    exact ⟨by grind, by grind⟩
  have p2 : FU (0 : Int32) 8 1000 := by
    exact FU.start (by grind) (by decide)
  have p3 : (0 : Int32) ≤ (0 : Int32) := by
    grind
  refine s_X6_closeChallenge_L4 p0 p1 (fun p => a2 p) 1000 (0 : Int32) (0 : Int32) X _ p2 ⟨by decide, by decide⟩ ⟨by decide, by decide⟩ hX p3 (fun v2 X3 wv2 hX3 => ?_)
  have wv2 : (0 : Int32) ≤ v2 ∧ v2 ≤ (8 : Int32) := wv2
  refine ok_lq (fun X7 e4 => ?_)
  have p5 : (0 : Int32) ≤ v2 ∧ v2 ≤ (8 : Int32) := by
    exact ⟨by grind, by grind⟩
  have hX7 : IV A B X7 := by rw [e4]; exact hX3.u1 rfl (a1) p5
  exact ok_some ⟨hX7, trivial⟩
theorem s_X6_closeByBody {A : Nat → Nat → Nat → Prop} {B : SS} (X : SS) (hX : IV A B X) (p0 : Int32) (i2 : Nat) (i3 : Nat) (a1 : A 0 0 12) (a2 : ∀ j, 1 ≤ j → A 1 j 2) (a3 : ∀ j, A 12 j 11) (a4 : ∀ j, A 12 j 12) (a5 : ∀ j, A 12 j 13) (a6 : ∀ j, A 12 j 14) (a7 : ∀ j p, A 13 j p) (a8 : A 16 1 4) (a9 : A 16 1 5) (a10 : A 16 1 6) (a11 : A 16 1 7) (a12 : A 16 1 8) (a13 : ∀ p, A 17 1 p) (a14 : ∀ p, A 18 1 p) (a15 : ∀ p, A 19 1 p) (a16 : ∀ j p, 1 ≤ j → A 2 j p) (a17 : ∀ p, A 20 1 p) (a18 : ∀ p, A 24 0 p) (a19 : ∀ j p, 1 ≤ j → A 3 j p) (a20 : ∀ j, A 9 j 3) : ok (f_X6_closeByBody X p0 i2 i3) (fun r => IV A B r.1 ∧ (98 : Int32) ≤ r.2 ∧ r.2 ≤ (115 : Int32)) := by
  unfold f_X6_closeByBody
  refine ok_gd ?_ (fun g1 => ?_)
  · exact vp_of (by decide) (by grind) (show p0 < (40 : Int32) by grind)
  have g1 := vp_to (by decide) g1
  have g1 : (0 : Int32) ≤ p0 ∧ p0 < (40 : Int32) := g1
  have p2 : (0 : Int32) ≤ p0 ∧ p0 ≤ (39 : Int32) := by
    exact ⟨by grind, by grind⟩
  refine ok_b1 (s_X6_closeChallenge X hX p0 p2 (a1) (fun p => a18 p)) (fun X3 v2 w3 => ?_)
  have hX3 : IV A B X3 := w3.1
  refine ok_b1 (s_X5_regain X3 hX3 (p0).toNatClampNeg i2 a2 (a4 ((p0).toNatClampNeg)) a16 a19) (fun X6 v5 w4 => ?_)
  have hX6 : IV A B X6 := w4.1
  refine ok_b1 (s_X6_verdictOn X6 hX6 (p0).toNatClampNeg (a8) (a9) (a10) (a11) (a12) (fun p => a13 p) (fun p => a14 p) (fun p => a15 p) (fun p => a17 p)) (fun X9 v8 w5 => ?_)
  have hX9 : IV A B X9 := w5.1
  have w6 : (102 : Int32) ≤ v8 ∧ v8 ≤ (115 : Int32) := w5.2
  refine ok_gd ?_ (fun g7 => ?_)
  · exact okc_of (by grind) (by grind)
  refine ok_lq (fun X12 e8 => ?_)
  have p9 : (0 : Int32) ≤ v8 ∧ v8 ≤ (65535 : Int32) := by
    exact ⟨by grind, by grind⟩
  have hX12 : IV A B X12 := by rw [e8]; exact hX9.u1 rfl (a3 ((p0).toNatClampNeg)) p9
  refine ok_b1 (s_X6_makeRoom X12 hX12 a2 a3 a4 a5 a6 a7 (a8) (a9) (a10) (a11) (a12) (fun p => a13 p) (fun p => a14 p) (fun p => a15 p) (fun p => a17 p)) (fun X14 v13 w10 => ?_)
  have hX14 : IV A B X14 := w10.1
  refine ok_ite (fun q11 => ?_) (fun q11 => ?_)
  · refine ok_lq (fun X23 e12 => ?_)
    have hX23 : IV A B X23 := by rw [e12]; exact hX14.u1f rfl (a20 i3) rfl
    have p13 : (98 : Int32) ≤ (115 : Int32) ∧ (115 : Int32) ≤ (115 : Int32) := by
      exact ⟨by grind, by grind⟩
    exact ok_some ⟨hX23, p13⟩
  · refine ok_gd ?_ (fun g14 => ?_)
    · have c15 : (0 : Int32) ≤ (X14.1 12 (p0).toNatClampNeg 15) ∧ (X14.1 12 (p0).toNatClampNeg 15) ≤ (9 : Int32) := hX14.at1 12 ((p0).toNatClampNeg) 15
      exact vp_of (by decide) (by grind) (show (X14.1 12 (p0).toNatClampNeg 15) < (10 : Int32) by grind)
    have g14 := vp_to (by decide) g14
    have g14 : (0 : Int32) ≤ (X14.1 12 (p0).toNatClampNeg 15) ∧ (X14.1 12 (p0).toNatClampNeg 15) < (10 : Int32) := g14
    refine ok_lq (fun X18 e16 => ?_)
    have hX18 : IV A B X18 := by rw [e16]; exact hX14.u1f rfl (a20 (((X14.1 12 (p0).toNatClampNeg 15)).toNatClampNeg)) rfl
    refine ok_ite (fun q17 => ?_) (fun q17 => ?_)
    · have p18 : (98 : Int32) ≤ (98 : Int32) ∧ (98 : Int32) ≤ (115 : Int32) := by
        exact ⟨by grind, by grind⟩
      exact ok_some ⟨hX18, p18⟩
    · refine ok_b1 (s_X6_dropBody X18 hX18 (p0).toNatClampNeg a2 (a3 ((p0).toNatClampNeg)) (a4 ((p0).toNatClampNeg)) (a5 ((p0).toNatClampNeg)) (a6 ((p0).toNatClampNeg)) (fun p => a7 ((p0).toNatClampNeg) p) (a8) (a9) (a10) (a11) (a12) (fun p => a13 p) (fun p => a14 p) (fun p => a15 p) (fun p => a17 p)) (fun X21 v20 w19 => ?_)
      have hX21 : IV A B X21 := w19.1
      have p20 : (98 : Int32) ≤ (98 : Int32) ∧ (98 : Int32) ≤ (115 : Int32) := by
        exact ⟨by grind, by grind⟩
      exact ok_some ⟨hX21, p20⟩
theorem s_X6_give {A : Nat → Nat → Nat → Prop} {B : SS} (X : SS) (hX : IV A B X) (p0 : Int32) (p1 : Int32) (a1 : A 0 0 12) (a2 : ∀ j, 1 ≤ j → A 1 j 2) (a3 : ∀ j, A 12 j 11) (a4 : ∀ j, A 12 j 12) (a5 : ∀ j, A 12 j 13) (a6 : ∀ j, A 12 j 14) (a7 : ∀ j p, A 13 j p) (a8 : A 16 1 4) (a9 : A 16 1 5) (a10 : A 16 1 6) (a11 : A 16 1 7) (a12 : A 16 1 8) (a13 : ∀ p, A 17 1 p) (a14 : ∀ p, A 18 1 p) (a15 : ∀ p, A 19 1 p) (a16 : ∀ j p, 1 ≤ j → A 2 j p) (a17 : ∀ p, A 20 1 p) (a18 : ∀ p, A 24 0 p) (a19 : ∀ j p, 1 ≤ j → A 3 j p) (a20 : ∀ j, A 9 j 3) : ok (f_X6_give X p0 p1) (fun r => IV A B r.1 ∧ se (fun v => (98 : Int32) ≤ v ∧ v ≤ (115 : Int32)) (fun E => E = "java/lang/IndexOutOfBoundsException" ∨ E = "java/lang/UnsupportedOperationException" ∨ E = "java/util/NoSuchElementException") r.2) := by
  unfold f_X6_give
  refine ok_e0 (s_X6_memberAt X hX p0) (fun i1 w1 => ?_) (fun E4 w1 => ?_)
  · have ni1 : i1 < 10 := w1
    refine ok_e0 (s_X6_workAt X hX p1) (fun i7 w2 => ?_) (fun E10 w2 => ?_)
    · refine ok_ite (fun q3 => ?_) (fun q3 => ?_)
      · refine ok_b0 (s_X2_placeOfCopy X hX i1 p1) (fun v14 w4 => ?_)
        have w5 : ((-1) : Int32) ≤ v14 ∧ v14 ≤ (2 : Int32) ∧ (v14 = (-1) ∨ v14 < (X.1 9 i1 2)) := w4
        refine ok_ite (fun q6 => ?_) (fun q6 => ?_)
        · have p7 : "java/util/NoSuchElementException" = "java/lang/IndexOutOfBoundsException" ∨ "java/util/NoSuchElementException" = "java/lang/UnsupportedOperationException" ∨ "java/util/NoSuchElementException" = "java/util/NoSuchElementException" := by simp
          exact ok_some ⟨hX, p7⟩
        · refine ok_gd ?_ (fun g8 => ?_)
          · exact vp_of (by decide) (by grind) (show v14 < (3 : Int32) by grind)
          have g8 := vp_to (by decide) g8
          have g8 : (0 : Int32) ≤ v14 ∧ v14 < (3 : Int32) := g8
          refine ok_gd ?_ (fun g9 => ?_)
          · exact (hX.at3 ni1 (cl_lt (n := 3) (by assumption))).2
          refine ok_b1 (s_X6_closeByBody X hX p1 (X.2.2.1 10 i1 (v14).toNatClampNeg) i1 (a1) a2 a3 a4 a5 a6 a7 (a8) (a9) (a10) (a11) (a12) (fun p => a13 p) (fun p => a14 p) (fun p => a15 p) a16 (fun p => a17 p) (fun p => a18 p) a19 a20) (fun X20 v19 w10 => ?_)
          have hX20 : IV A B X20 := w10.1
          have w11 : (98 : Int32) ≤ v19 ∧ v19 ≤ (115 : Int32) := w10.2
          refine ok_gd ?_ (fun g12 => ?_)
          · exact okc_of (by grind) (by grind)
          have p13 : (98 : Int32) ≤ v19 ∧ v19 ≤ (115 : Int32) := by
            exact ⟨by grind, by grind⟩
          exact ok_some ⟨hX20, p13⟩
      · have p14 : "java/lang/UnsupportedOperationException" = "java/lang/IndexOutOfBoundsException" ∨ "java/lang/UnsupportedOperationException" = "java/lang/UnsupportedOperationException" ∨ "java/lang/UnsupportedOperationException" = "java/util/NoSuchElementException" := by simp
        exact ok_some ⟨hX, p14⟩
    · have w15 : E10 = "java/lang/IndexOutOfBoundsException" := w2
      have p16 : E10 = "java/lang/IndexOutOfBoundsException" ∨ E10 = "java/lang/UnsupportedOperationException" ∨ E10 = "java/util/NoSuchElementException" := by grind
      exact ok_some ⟨hX, p16⟩
  · have w17 : E4 = "java/lang/IndexOutOfBoundsException" := w1
    have p18 : E4 = "java/lang/IndexOutOfBoundsException" ∨ E4 = "java/lang/UnsupportedOperationException" ∨ E4 = "java/util/NoSuchElementException" := by grind
    exact ok_some ⟨hX, p18⟩
theorem s_X6_isTheBody_J78 {A : Nat → Nat → Nat → Prop} {B : SS} {n : Nat} (rc : Int32 → SS → (SS → Option (SS × Int32)) → Option (SS × Int32)) (hrc : ∀ (v8 : Int32) (X9 : SS) (k6 : (SS → Option (SS × Int32))), (FU v8 5 n) → ((0 : Int32) ≤ v8 ∧ v8 ≤ (5 : Int32)) → (IV A B X9) → (∀ (k_0 : SS), (IV A B k_0) → ok (k6 k_0) (fun r => IV A B r.1 ∧ (0 : Int32) ≤ r.2 ∧ r.2 ≤ (1 : Int32))) → ok (rc v8 X9 k6) (fun r => IV A B r.1 ∧ (0 : Int32) ≤ r.2 ∧ r.2 ≤ (1 : Int32))) (k6 : SS → Option (SS × Int32)) (hk : ∀ (k_0 : SS), (IV A B k_0) → ok (k6 k_0) (fun r => IV A B r.1 ∧ (0 : Int32) ≤ r.2 ∧ r.2 ≤ (1 : Int32))) (v8 : Int32) (iv8 : (0 : Int32) ≤ v8 ∧ v8 ≤ (4 : Int32)) (X9 : SS) (hX9 : IV A B X9) (i1 : Nat) (X : SS) (hX : IV A B X) (i2 : Nat) (v13 : Int32) (iv13 : (0 : Int32) ≤ v13 ∧ v13 ≤ (1 : Int32)) (a1 : A 16 1 4) (a2 : A 16 1 5) (a3 : A 16 1 6) (a4 : A 16 1 7) (a5 : A 16 1 8) (a6 : ∀ p, A 17 1 p) (a7 : ∀ p, A 18 1 p) (a8 : ∀ p, A 19 1 p) (a9 : ∀ p, A 20 1 p) (hF : FU v8 5 (n + 1)) : ok (f_X6_isTheBody_J78 rc k6 v8 X9 i1 X i2 v13) (fun r => IV A B r.1 ∧ (0 : Int32) ≤ r.2 ∧ r.2 ≤ (1 : Int32)) := by
  unfold f_X6_isTheBody_J78
  refine ok_ite (fun q1 => ?_) (fun q1 => ?_)
  · refine ok_gd ?_ (fun g2 => ?_)
    · exact vp_of (by decide) (by grind) (show v8 < (5 : Int32) by grind)
    have g2 := vp_to (by decide) g2
    have g2 : (0 : Int32) ≤ v8 ∧ v8 < (5 : Int32) := g2
    refine ok_b1 (s_X6_stepsDoneBy X9 hX9 i1 (5 * ((X.1 12 i2 8)).toNatClampNeg + (v8).toNatClampNeg) (a1) (a2) (a3) (a4) (a5) (fun p => a6 p) (fun p => a7 p) (fun p => a8 p) (fun p => a9 p)) (fun X18 v17 w3 => ?_)
    have hX18 : IV A B X18 := w3.1
    refine ok_gd ?_ (fun g4 => ?_)
    · exact vp_of (by decide) (by grind) (show v8 < (5 : Int32) by grind)
    have g4 := vp_to (by decide) g4
    have g4 : (0 : Int32) ≤ v8 ∧ v8 < (5 : Int32) := g4
    refine ok_ite (fun q5 => ?_) (fun q5 => ?_)
    · have p6 : FU (v8 + (1 : Int32)) 5 _ := by
        exact FU.step hF (by grind)
      have p7 : (0 : Int32) ≤ (v8 + (1 : Int32)) ∧ (v8 + (1 : Int32)) ≤ (5 : Int32) := by
        exact ⟨by grind, by grind⟩
      exact hrc (v8 + (1 : Int32)) X18 k6 p6 p7 hX18 hk
    · have p8 : (0 : Int32) ≤ (0 : Int32) ∧ (0 : Int32) ≤ (1 : Int32) := by
        exact ⟨by grind, by grind⟩
      exact ok_some ⟨hX18, p8⟩
  · have p9 : FU (v8 + (1 : Int32)) 5 _ := by
      exact FU.step hF (by grind)
    have p10 : (0 : Int32) ≤ (v8 + (1 : Int32)) ∧ (v8 + (1 : Int32)) ≤ (5 : Int32) := by
      exact ⟨by grind, by grind⟩
    exact hrc (v8 + (1 : Int32)) X9 k6 p9 p10 hX9 hk
theorem s_X6_isTheBody_L38 {A : Nat → Nat → Nat → Prop} {B : SS} (i2 : Nat) (X : SS) (hX : IV A B X) (i1 : Nat) (a1 : A 16 1 4) (a2 : A 16 1 5) (a3 : A 16 1 6) (a4 : A 16 1 7) (a5 : A 16 1 8) (a6 : ∀ p, A 17 1 p) (a7 : ∀ p, A 18 1 p) (a8 : ∀ p, A 19 1 p) (a9 : ∀ p, A 20 1 p) : ∀ (n : Nat), ∀ (v8 : Int32) (X9 : SS) (k6 : (SS → Option (SS × Int32))), (FU v8 5 n) → ((0 : Int32) ≤ v8 ∧ v8 ≤ (5 : Int32)) → (IV A B X9) → (∀ (k_0 : SS), (IV A B k_0) → ok (k6 k_0) (fun r => IV A B r.1 ∧ (0 : Int32) ≤ r.2 ∧ r.2 ≤ (1 : Int32))) → ok (f_X6_isTheBody_L38 i2 X i1 n v8 X9 k6) (fun r => IV A B r.1 ∧ (0 : Int32) ≤ r.2 ∧ r.2 ≤ (1 : Int32)) := by
  intro n
  induction n with
  | zero =>
    intro v8 X9 k6 hF iv8 hX9 hk
    exact (FU.stop hF (show v8 ≤ (5 : Int32) by grind)).elim
  | succ n ih =>
    intro v8 X9 k6 hF iv8 hX9 hk
    rw [f_X6_isTheBody_L38]
    refine ok_ite (fun q1 => ?_) (fun q1 => ?_)
    · exact hk X9 hX9
    · refine ok_ite (fun q2 => ?_) (fun q2 => ?_)
      · exact hk X9 hX9
      · refine ok_gd ?_ (fun g3 => ?_)
        · have c4 : (0 : Int32) ≤ (X9.1 12 i2 13) ∧ (X9.1 12 i2 13) ≤ (5 : Int32) := hX9.at1 12 i2 13
          have c5 : (0 : Int32) ≤ (X9.1 7 ((X.1 12 i2 8)).toNatClampNeg 1) ∧ (X9.1 7 ((X.1 12 i2 8)).toNatClampNeg 1) ≤ (5 : Int32) := hX9.at1 7 (((X.1 12 i2 8)).toNatClampNeg) 1
          have c6 : (0 : Int32) ≤ (X.1 12 i2 8) ∧ (X.1 12 i2 8) ≤ (7 : Int32) := hX.at1 12 i2 8
          exact vp_of (by decide) (by grind) (show v8 < (5 : Int32) by grind)
        have g3 := vp_to (by decide) g3
        have g3 : (0 : Int32) ≤ v8 ∧ v8 < (5 : Int32) := g3
        refine ok_ite (fun q7 => ?_) (fun q7 => ?_)
        · have p8 : (0 : Int32) ≤ v8 ∧ v8 ≤ (4 : Int32) := by
            have c9 : (0 : Int32) ≤ (X9.1 12 i2 13) ∧ (X9.1 12 i2 13) ≤ (5 : Int32) := hX9.at1 12 i2 13
            have c10 : (0 : Int32) ≤ (X9.1 7 ((X.1 12 i2 8)).toNatClampNeg 1) ∧ (X9.1 7 ((X.1 12 i2 8)).toNatClampNeg 1) ≤ (5 : Int32) := hX9.at1 7 (((X.1 12 i2 8)).toNatClampNeg) 1
            have c11 : (0 : Int32) ≤ (X.1 12 i2 8) ∧ (X.1 12 i2 8) ≤ (7 : Int32) := hX.at1 12 i2 8
            exact ⟨by grind, by grind⟩
          exact s_X6_isTheBody_J78 (n := _) (f_X6_isTheBody_L38 i2 X i1 n) ih k6 hk v8 p8 X9 hX9 i1 X hX i2 (0 : Int32) ⟨by decide, by decide⟩ (a1) (a2) (a3) (a4) (a5) (fun p => a6 p) (fun p => a7 p) (fun p => a8 p) (fun p => a9 p) hF
        · have p12 : (0 : Int32) ≤ v8 ∧ v8 ≤ (4 : Int32) := by
            have c13 : (0 : Int32) ≤ (X9.1 12 i2 13) ∧ (X9.1 12 i2 13) ≤ (5 : Int32) := hX9.at1 12 i2 13
            have c14 : (0 : Int32) ≤ (X9.1 7 ((X.1 12 i2 8)).toNatClampNeg 1) ∧ (X9.1 7 ((X.1 12 i2 8)).toNatClampNeg 1) ≤ (5 : Int32) := hX9.at1 7 (((X.1 12 i2 8)).toNatClampNeg) 1
            have c15 : (0 : Int32) ≤ (X.1 12 i2 8) ∧ (X.1 12 i2 8) ≤ (7 : Int32) := hX.at1 12 i2 8
            exact ⟨by grind, by grind⟩
          exact s_X6_isTheBody_J78 (n := _) (f_X6_isTheBody_L38 i2 X i1 n) ih k6 hk v8 p12 X9 hX9 i1 X hX i2 (1 : Int32) ⟨by decide, by decide⟩ (a1) (a2) (a3) (a4) (a5) (fun p => a6 p) (fun p => a7 p) (fun p => a8 p) (fun p => a9 p) hF
theorem s_X6_isTheBody {A : Nat → Nat → Nat → Prop} {B : SS} (X : SS) (hX : IV A B X) (i1 : Nat) (i2 : Nat) (a1 : A 16 1 4) (a2 : A 16 1 5) (a3 : A 16 1 6) (a4 : A 16 1 7) (a5 : A 16 1 8) (a6 : ∀ p, A 17 1 p) (a7 : ∀ p, A 18 1 p) (a8 : ∀ p, A 19 1 p) (a9 : ∀ p, A 20 1 p) : ok (f_X6_isTheBody X i1 i2) (fun r => IV A B r.1 ∧ (0 : Int32) ≤ r.2 ∧ r.2 ≤ (1 : Int32)) := by
  unfold f_X6_isTheBody
  refine ok_ite (fun q1 => ?_) (fun q1 => ?_)
  · refine ok_b0 (s_X3_sumOfAll X hX i1) (fun v2 w2 => ?_)
    refine ok_ite (fun q3 => ?_) (fun q3 => ?_)
    · refine ok_gd ?_ (fun g4 => ?_)
      · have c5 : (0 : Int32) ≤ (X.1 12 i2 8) ∧ (X.1 12 i2 8) ≤ (7 : Int32) := hX.at1 12 i2 8
        have c6 : (0 : Int32) ≤ (X.1 1 i1 2) ∧ (X.1 1 i1 2) ≤ (24 : Int32) := hX.at1 1 i1 2
        exact vp_of (by decide) (by grind) (show (X.1 12 i2 8) < (8 : Int32) by grind)
      have g4 := vp_to (by decide) g4
      have g4 : (0 : Int32) ≤ (X.1 12 i2 8) ∧ (X.1 12 i2 8) < (8 : Int32) := g4
      have p7 : FU (0 : Int32) 5 1000 := by
        exact FU.start (by grind) (by decide)
      refine s_X6_isTheBody_L38 i2 X hX i1 (a1) (a2) (a3) (a4) (a5) (fun p => a6 p) (fun p => a7 p) (fun p => a8 p) (fun p => a9 p) 1000 (0 : Int32) X _ p7 ⟨by decide, by decide⟩ hX (fun X7 hX7 => ?_)
      have p8 : (0 : Int32) ≤ (1 : Int32) ∧ (1 : Int32) ≤ (1 : Int32) := by
        exact ⟨by grind, by grind⟩
      exact ok_some ⟨hX7, p8⟩
    · have p9 : (0 : Int32) ≤ (0 : Int32) ∧ (0 : Int32) ≤ (1 : Int32) := by
        exact ⟨by grind, by grind⟩
      exact ok_some ⟨hX, p9⟩
  · have p10 : (0 : Int32) ≤ (0 : Int32) ∧ (0 : Int32) ≤ (1 : Int32) := by
      exact ⟨by grind, by grind⟩
    exact ok_some ⟨hX, p10⟩
theorem s_X6_answer {A : Nat → Nat → Nat → Prop} {B : SS} (X : SS) (hX : IV A B X) (p0 : Int32) (p1 : Int32) (a1 : A 0 0 12) (a2 : ∀ j, 1 ≤ j → A 1 j 2) (a3 : ∀ j, A 12 j 11) (a4 : ∀ j, A 12 j 12) (a5 : ∀ j, A 12 j 13) (a6 : ∀ j, A 12 j 14) (a7 : ∀ j p, A 13 j p) (a8 : A 16 1 4) (a9 : A 16 1 5) (a10 : A 16 1 6) (a11 : A 16 1 7) (a12 : A 16 1 8) (a13 : ∀ p, A 17 1 p) (a14 : ∀ p, A 18 1 p) (a15 : ∀ p, A 19 1 p) (a16 : ∀ j p, 1 ≤ j → A 2 j p) (a17 : ∀ p, A 20 1 p) (a18 : ∀ p, A 24 0 p) (a19 : ∀ j p, 1 ≤ j → A 3 j p) (a20 : ∀ j, A 9 j 3) : ok (f_X6_answer X p0 p1) (fun r => IV A B r.1 ∧ se (fun v => (45 : Int32) ≤ v ∧ v ≤ (115 : Int32)) (fun E => E = "java/lang/IndexOutOfBoundsException" ∨ E = "java/lang/UnsupportedOperationException") r.2) := by
  unfold f_X6_answer
  refine ok_e0 (s_X6_memberAt X hX p0) (fun i1 w1 => ?_) (fun E4 w1 => ?_)
  · have ni1 : i1 < 10 := w1
    refine ok_e0 (s_X6_workAt X hX p1) (fun i7 w2 => ?_) (fun E10 w2 => ?_)
    · refine ok_ite (fun q3 => ?_) (fun q3 => ?_)
      · refine ok_b0 (s_X3_isWhole X hX 0) (fun v14 w4 => ?_)
        have w5 : (0 : Int32) ≤ v14 ∧ v14 ≤ (1 : Int32) := w4
        refine ok_ite (fun q6 => ?_) (fun q6 => ?_)
        · have p7 : "java/lang/UnsupportedOperationException" = "java/lang/IndexOutOfBoundsException" ∨ "java/lang/UnsupportedOperationException" = "java/lang/UnsupportedOperationException" := by simp
          exact ok_some ⟨hX, p7⟩
        · refine ok_b1 (s_X6_isTheBody X hX 0 i7 (a8) (a9) (a10) (a11) (a12) (fun p => a13 p) (fun p => a14 p) (fun p => a15 p) (fun p => a17 p)) (fun X18 v17 w8 => ?_)
          have hX18 : IV A B X18 := w8.1
          have w9 : (0 : Int32) ≤ v17 ∧ v17 ≤ (1 : Int32) := w8.2
          refine ok_ite (fun q10 => ?_) (fun q10 => ?_)
          · have p11 : (45 : Int32) ≤ (45 : Int32) ∧ (45 : Int32) ≤ (115 : Int32) := by
              exact ⟨by grind, by grind⟩
            exact ok_some ⟨hX18, p11⟩
          · refine ok_b1 (s_X6_closeByBody X18 hX18 p1 0 i1 (a1) a2 a3 a4 a5 a6 a7 (a8) (a9) (a10) (a11) (a12) (fun p => a13 p) (fun p => a14 p) (fun p => a15 p) a16 (fun p => a17 p) (fun p => a18 p) a19 a20) (fun X22 v21 w12 => ?_)
            have hX22 : IV A B X22 := w12.1
            have w13 : (98 : Int32) ≤ v21 ∧ v21 ≤ (115 : Int32) := w12.2
            refine ok_gd ?_ (fun g14 => ?_)
            · exact okc_of (by grind) (by grind)
            have p15 : (45 : Int32) ≤ v21 ∧ v21 ≤ (115 : Int32) := by
              exact ⟨by grind, by grind⟩
            exact ok_some ⟨hX22, p15⟩
      · have p16 : "java/lang/UnsupportedOperationException" = "java/lang/IndexOutOfBoundsException" ∨ "java/lang/UnsupportedOperationException" = "java/lang/UnsupportedOperationException" := by simp
        exact ok_some ⟨hX, p16⟩
    · have w17 : E10 = "java/lang/IndexOutOfBoundsException" := w2
      have p18 : E10 = "java/lang/IndexOutOfBoundsException" ∨ E10 = "java/lang/UnsupportedOperationException" := by grind
      exact ok_some ⟨hX, p18⟩
  · have w19 : E4 = "java/lang/IndexOutOfBoundsException" := w1
    have p20 : E4 = "java/lang/IndexOutOfBoundsException" ∨ E4 = "java/lang/UnsupportedOperationException" := by grind
    exact ok_some ⟨hX, p20⟩
theorem s_X6_open {A : Nat → Nat → Nat → Prop} {B : SS} (X : SS) (hX : IV A B X) (p0 : Int32) : ok (f_X6_open X p0) (fun r => se (fun v => (0 : Int32) ≤ v ∧ v ≤ (39 : Int32)) (fun E => E = "java/util/NoSuchElementException") r) := by
  unfold f_X6_open
  refine ok_ite (fun q1 => ?_) (fun q1 => ?_)
  · have p2 : "java/util/NoSuchElementException" = "java/util/NoSuchElementException" := by simp
    exact ok_some p2
  · refine ok_ite (fun q3 => ?_) (fun q3 => ?_)
    · refine ok_gd ?_ (fun g4 => ?_)
      · have c5 : (0 : Int32) ≤ (X.1 0 0 12) ∧ (X.1 0 0 12) ≤ (8 : Int32) := hX.at1 0 0 12
        exact vp_of (by decide) (by grind) (show p0 < (8 : Int32) by grind)
      have g4 := vp_to (by decide) g4
      have g4 : (0 : Int32) ≤ p0 ∧ p0 < (8 : Int32) := g4
      have p6 : (0 : Int32) ≤ (X.1 24 0 (p0).toNatClampNeg) ∧ (X.1 24 0 (p0).toNatClampNeg) ≤ (39 : Int32) := by
        have c7 : (0 : Int32) ≤ (X.1 24 0 (p0).toNatClampNeg) ∧ (X.1 24 0 (p0).toNatClampNeg) ≤ (39 : Int32) := hX.at1 24 0 ((p0).toNatClampNeg)
        have c8 : (0 : Int32) ≤ (X.1 0 0 12) ∧ (X.1 0 0 12) ≤ (8 : Int32) := hX.at1 0 0 12
        exact ⟨by grind, by grind⟩
      exact ok_some p6
    · have p9 : "java/util/NoSuchElementException" = "java/util/NoSuchElementException" := by simp
      exact ok_some p9
theorem s_X6_left {A : Nat → Nat → Nat → Prop} {B : SS} (X : SS) (hX : IV A B X) (p0 : Int32) : ok (f_X6_left X p0) (fun r => se (fun v => True) (fun E => E = "java/lang/IndexOutOfBoundsException" ∨ E = "java/lang/UnsupportedOperationException") r) := by
  unfold f_X6_left
  refine ok_e0 (s_X6_workAt X hX p0) (fun i1 w1 => ?_) (fun E4 w1 => ?_)
  · refine ok_ite (fun q2 => ?_) (fun q2 => ?_)
    · exact ok_some trivial
    · have p3 : "java/lang/UnsupportedOperationException" = "java/lang/IndexOutOfBoundsException" ∨ "java/lang/UnsupportedOperationException" = "java/lang/UnsupportedOperationException" := by simp
      exact ok_some p3
  · have w4 : E4 = "java/lang/IndexOutOfBoundsException" := w1
    have p5 : E4 = "java/lang/IndexOutOfBoundsException" ∨ E4 = "java/lang/UnsupportedOperationException" := by grind
    exact ok_some p5
theorem s_X6_days_L31 {A : Nat → Nat → Nat → Prop} {B : SS} (p0 : Int32) (ip0 : (1 : Int32) ≤ p0 ∧ p0 ≤ (30 : Int32)) (a1 : A 0 0 12) (a2 : ∀ j, A 12 j 11) (a3 : ∀ j, A 12 j 16) (a4 : ∀ p, A 24 0 p) (a5 : ∀ j, A 9 j 3) : ∀ (n : Nat), ∀ (v7 : Int32) (v8 : Int32) (X9 : SS) (k4 : (Int32 → SS → Option (SS × (Int32 ⊕ String)))), (FD v7 n) → (((-1) : Int32) ≤ v7 ∧ v7 ≤ (7 : Int32)) → (IV A B X9) → (∀ (k_0 : Int32) (k_1 : SS), (IV A B k_1) → ok (k4 k_0 k_1) (fun r => IV A B r.1 ∧ se (fun v => True) (fun E => E = "java/lang/IllegalArgumentException") r.2)) → ok (f_X6_days_L31 p0 n v7 v8 X9 k4) (fun r => IV A B r.1 ∧ se (fun v => True) (fun E => E = "java/lang/IllegalArgumentException") r.2) := by
  intro n
  induction n with
  | zero =>
    intro v7 v8 X9 k4 hF iv7 hX9 hk
    exact (FD.stop hF (by grind)).elim
  | succ n ih =>
    intro v7 v8 X9 k4 hF iv7 hX9 hk
    rw [f_X6_days_L31]
    refine ok_ite (fun q1 => ?_) (fun q1 => ?_)
    · exact hk v8 X9 hX9
    · refine ok_gd ?_ (fun g2 => ?_)
      · exact vp_of (by decide) (by grind) (show v7 < (8 : Int32) by grind)
      have g2 := vp_to (by decide) g2
      have g2 : (0 : Int32) ≤ v7 ∧ v7 < (8 : Int32) := g2
      refine ok_lq (fun v12 e3 => ?_)
      refine ok_gd ?_ (fun g4 => ?_)
      · have c5 : (0 : Int32) ≤ (X9.1 24 0 (v7).toNatClampNeg) ∧ (X9.1 24 0 (v7).toNatClampNeg) ≤ (39 : Int32) := hX9.at1 24 0 ((v7).toNatClampNeg)
        exact vp_of (by decide) (by grind) (show v12 < (40 : Int32) by grind)
      have g4 := vp_to (by decide) g4
      have g4 : (0 : Int32) ≤ v12 ∧ v12 < (40 : Int32) := g4
      refine ok_lq (fun X14 e6 => ?_)
      have hX14 : IV A B X14 := by rw [e6]; exact hX9.u1f rfl (a3 ((v12).toNatClampNeg)) rfl
      refine ok_gd ?_ (fun g7 => ?_)
      · have c8 : (0 : Int32) ≤ (X9.1 24 0 (v7).toNatClampNeg) ∧ (X9.1 24 0 (v7).toNatClampNeg) ≤ (39 : Int32) := hX9.at1 24 0 ((v7).toNatClampNeg)
        exact vp_of (by decide) (by grind) (show v12 < (40 : Int32) by grind)
      have g7 := vp_to (by decide) g7
      have g7 : (0 : Int32) ≤ v12 ∧ v12 < (40 : Int32) := g7
      refine ok_ite (fun q9 => ?_) (fun q9 => ?_)
      · have p10 : FD (v7 + ((-1) : Int32)) _ := by
          exact FD.step hF (by grind)
        have p11 : ((-1) : Int32) ≤ (v7 + ((-1) : Int32)) ∧ (v7 + ((-1) : Int32)) ≤ (7 : Int32) := by
          exact ⟨by grind, by grind⟩
        exact ih (v7 + ((-1) : Int32)) v8 X14 k4 p10 p11 hX14 hk
      · have p12 : (0 : Int32) ≤ v12 ∧ v12 ≤ (39 : Int32) := by
          have c13 : (0 : Int32) ≤ (X9.1 24 0 (v7).toNatClampNeg) ∧ (X9.1 24 0 (v7).toNatClampNeg) ≤ (39 : Int32) := hX9.at1 24 0 ((v7).toNatClampNeg)
          have c14 : (X14.1 12 (v12).toNatClampNeg 16) = ((X9.1 12 (v12).toNatClampNeg 16) - p0) := by rw [e6]; exact up_s
          exact ⟨by grind, by grind⟩
        refine ok_b1 (s_X6_closeChallenge X14 hX14 v12 p12 (a1) (fun p => a4 p)) (fun X18 v17 w15 => ?_)
        have hX18 : IV A B X18 := w15.1
        refine ok_gd ?_ (fun g16 => ?_)
        · have c17 : (0 : Int32) ≤ (X9.1 24 0 (v7).toNatClampNeg) ∧ (X9.1 24 0 (v7).toNatClampNeg) ≤ (39 : Int32) := hX9.at1 24 0 ((v7).toNatClampNeg)
          have c18 : (X14.1 12 (v12).toNatClampNeg 16) = ((X9.1 12 (v12).toNatClampNeg 16) - p0) := by rw [e6]; exact up_s
          exact vp_of (by decide) (by grind) (show v12 < (40 : Int32) by grind)
        have g16 := vp_to (by decide) g16
        have g16 : (0 : Int32) ≤ v12 ∧ v12 < (40 : Int32) := g16
        refine ok_lq (fun X21 e19 => ?_)
        have hX21 : IV A B X21 := by rw [e19]; exact hX18.u1 rfl (a2 ((v12).toNatClampNeg)) ⟨by decide, by decide⟩
        refine ok_gd ?_ (fun g20 => ?_)
        · have c21 : (0 : Int32) ≤ (X9.1 24 0 (v7).toNatClampNeg) ∧ (X9.1 24 0 (v7).toNatClampNeg) ≤ (39 : Int32) := hX9.at1 24 0 ((v7).toNatClampNeg)
          have c22 : (X14.1 12 (v12).toNatClampNeg 16) = ((X9.1 12 (v12).toNatClampNeg 16) - p0) := by rw [e6]; exact up_s
          exact vp_of (by decide) (by grind) (show v12 < (40 : Int32) by grind)
        have g20 := vp_to (by decide) g20
        have g20 : (0 : Int32) ≤ v12 ∧ v12 < (40 : Int32) := g20
        refine ok_gd ?_ (fun g23 => ?_)
        · have c24 : (0 : Int32) ≤ (X21.1 12 (v12).toNatClampNeg 15) ∧ (X21.1 12 (v12).toNatClampNeg 15) ≤ (9 : Int32) := hX21.at1 12 ((v12).toNatClampNeg) 15
          have c25 : (X21.1 12 (v12).toNatClampNeg 15) = (X18.1 12 (v12).toNatClampNeg 15) := by rw [e19]; exact up_p (by decide)
          have c26 : (0 : Int32) ≤ (X9.1 24 0 (v7).toNatClampNeg) ∧ (X9.1 24 0 (v7).toNatClampNeg) ≤ (39 : Int32) := hX9.at1 24 0 ((v7).toNatClampNeg)
          have c27 : (X14.1 12 (v12).toNatClampNeg 16) = ((X9.1 12 (v12).toNatClampNeg 16) - p0) := by rw [e6]; exact up_s
          have c28 : (0 : Int32) ≤ (X18.1 12 (v12).toNatClampNeg 15) ∧ (X18.1 12 (v12).toNatClampNeg 15) ≤ (9 : Int32) := hX18.at1 12 ((v12).toNatClampNeg) 15
          exact vp_of (by decide) (by grind) (show (X21.1 12 (v12).toNatClampNeg 15) < (10 : Int32) by grind)
        have g23 := vp_to (by decide) g23
        have g23 : (0 : Int32) ≤ (X21.1 12 (v12).toNatClampNeg 15) ∧ (X21.1 12 (v12).toNatClampNeg 15) < (10 : Int32) := g23
        refine ok_lq (fun X24 e29 => ?_)
        have hX24 : IV A B X24 := by rw [e29]; exact hX21.u1f rfl (a5 (((X21.1 12 (v12).toNatClampNeg 15)).toNatClampNeg)) rfl
        have p30 : FD (v7 + ((-1) : Int32)) _ := by
          exact FD.step hF (by grind)
        have p31 : ((-1) : Int32) ≤ (v7 + ((-1) : Int32)) ∧ (v7 + ((-1) : Int32)) ≤ (7 : Int32) := by
          exact ⟨by grind, by grind⟩
        exact ih (v7 + ((-1) : Int32)) (v8 + (1 : Int32)) X24 k4 p30 p31 hX24 hk
theorem s_X6_days {A : Nat → Nat → Nat → Prop} {B : SS} (X : SS) (hX : IV A B X) (p0 : Int32) (a1 : A 0 0 12) (a2 : ∀ j, A 12 j 11) (a3 : ∀ j, A 12 j 16) (a4 : ∀ p, A 24 0 p) (a5 : ∀ j, A 9 j 3) : ok (f_X6_days X p0) (fun r => IV A B r.1 ∧ se (fun v => True) (fun E => E = "java/lang/IllegalArgumentException") r.2) := by
  unfold f_X6_days
  refine ok_ite (fun q1 => ?_) (fun q1 => ?_)
  · have p2 : "java/lang/IllegalArgumentException" = "java/lang/IllegalArgumentException" := by simp
    exact ok_some ⟨hX, p2⟩
  · refine ok_ite (fun q3 => ?_) (fun q3 => ?_)
    · refine ok_lq (fun v3 e4 => ?_)
      have p5 : (1 : Int32) ≤ p0 ∧ p0 ≤ (30 : Int32) := by
        exact ⟨by grind, by grind⟩
      have p6 : FD v3 1000 := by
        have c7 : (0 : Int32) ≤ (X.1 0 0 12) ∧ (X.1 0 0 12) ≤ (8 : Int32) := hX.at1 0 0 12
        exact FD.start (show v3 ≤ (900 : Int32) by grind)
      have p8 : ((-1) : Int32) ≤ v3 ∧ v3 ≤ (7 : Int32) := by
        have c9 : (0 : Int32) ≤ (X.1 0 0 12) ∧ (X.1 0 0 12) ≤ (8 : Int32) := hX.at1 0 0 12
        exact ⟨by grind, by grind⟩
      refine s_X6_days_L31 p0 p5 (a1) a2 a3 (fun p => a4 p) a5 1000 v3 (0 : Int32) X _ p6 p8 hX (fun v5 X6 hX6 => ?_)
      exact ok_some ⟨hX6, trivial⟩
    · have p10 : "java/lang/IllegalArgumentException" = "java/lang/IllegalArgumentException" := by simp
      exact ok_some ⟨hX, p10⟩
theorem s_X6_checksum_L56 {A : Nat → Nat → Nat → Prop} {B : SS} (X : SS) (hX : IV A B X) : ∀ (n : Nat), ∀ (v8 : Int32) (v9 : Int64) (k6 : (Int64 → Option (Int64))), (FU v8 10 n) → ((0 : Int32) ≤ v8 ∧ v8 ≤ (10 : Int32)) → (∀ (k_0 : Int64), ok (k6 k_0) (fun r => True)) → ok (f_X6_checksum_L56 X n v8 v9 k6) (fun r => True) := by
  intro n
  induction n with
  | zero =>
    intro v8 v9 k6 hF iv8 hk
    exact (FU.stop hF (show v8 ≤ (10 : Int32) by grind)).elim
  | succ n ih =>
    intro v8 v9 k6 hF iv8 hk
    rw [f_X6_checksum_L56]
    refine ok_ite (fun q1 => ?_) (fun q1 => ?_)
    · exact hk v9
    · refine ok_gd ?_ (fun g2 => ?_)
      · have c3 : (0 : Int32) ≤ (X.1 0 0 10) ∧ (X.1 0 0 10) ≤ (10 : Int32) := hX.at1 0 0 10
        exact vp_of (by decide) (by grind) (show v8 < (10 : Int32) by grind)
      have g2 := vp_to (by decide) g2
      have g2 : (0 : Int32) ≤ v8 ∧ v8 < (10 : Int32) := g2
      refine ok_lq (fun v12 e4 => ?_)
      have p5 : FU (v8 + (1 : Int32)) 10 _ := by
        have c6 : (0 : Int32) ≤ (X.1 0 0 10) ∧ (X.1 0 0 10) ≤ (10 : Int32) := hX.at1 0 0 10
        exact FU.step hF (by grind)
      have p7 : (0 : Int32) ≤ (v8 + (1 : Int32)) ∧ (v8 + (1 : Int32)) ≤ (10 : Int32) := by
        have c8 : (0 : Int32) ≤ (X.1 0 0 10) ∧ (X.1 0 0 10) ≤ (10 : Int32) := hX.at1 0 0 10
        exact ⟨by grind, by grind⟩
      exact ih (v8 + (1 : Int32)) v12 k6 p5 p7 hk
theorem s_X6_checksum_L6 {A : Nat → Nat → Nat → Prop} {B : SS} (X : SS) (hX : IV A B X) : ∀ (n : Nat), ∀ (v4 : Int32) (v5 : Int64) (k2 : (Int64 → Option (Int64))), (FU v4 40 n) → ((0 : Int32) ≤ v4 ∧ v4 ≤ (40 : Int32)) → (∀ (k_0 : Int64), ok (k2 k_0) (fun r => True)) → ok (f_X6_checksum_L6 X n v4 v5 k2) (fun r => True) := by
  intro n
  induction n with
  | zero =>
    intro v4 v5 k2 hF iv4 hk
    exact (FU.stop hF (show v4 ≤ (40 : Int32) by grind)).elim
  | succ n ih =>
    intro v4 v5 k2 hF iv4 hk
    rw [f_X6_checksum_L6]
    refine ok_ite (fun q1 => ?_) (fun q1 => ?_)
    · exact hk v5
    · refine ok_gd ?_ (fun g2 => ?_)
      · have c3 : (0 : Int32) ≤ (X.1 0 0 11) ∧ (X.1 0 0 11) ≤ (40 : Int32) := hX.at1 0 0 11
        exact vp_of (by decide) (by grind) (show v4 < (40 : Int32) by grind)
      have g2 := vp_to (by decide) g2
      have g2 : (0 : Int32) ≤ v4 ∧ v4 < (40 : Int32) := g2
      refine ok_lq (fun v15 e4 => ?_)
      refine ok_gd ?_ (fun g5 => ?_)
      · have c6 : (0 : Int32) ≤ (X.1 0 0 11) ∧ (X.1 0 0 11) ≤ (40 : Int32) := hX.at1 0 0 11
        exact vp_of (by decide) (by grind) (show v4 < (40 : Int32) by grind)
      have g5 := vp_to (by decide) g5
      have g5 : (0 : Int32) ≤ v4 ∧ v4 < (40 : Int32) := g5
      refine ok_lq (fun v17 e7 => ?_)
      have p8 : FU (v4 + (1 : Int32)) 40 _ := by
        have c9 : (0 : Int32) ≤ (X.1 0 0 11) ∧ (X.1 0 0 11) ≤ (40 : Int32) := hX.at1 0 0 11
        exact FU.step hF (by grind)
      have p10 : (0 : Int32) ≤ (v4 + (1 : Int32)) ∧ (v4 + (1 : Int32)) ≤ (40 : Int32) := by
        have c11 : (0 : Int32) ≤ (X.1 0 0 11) ∧ (X.1 0 0 11) ≤ (40 : Int32) := hX.at1 0 0 11
        exact ⟨by grind, by grind⟩
      exact ih (v4 + (1 : Int32)) v17 k2 p8 p10 hk
theorem s_X6_checksum {A : Nat → Nat → Nat → Prop} {B : SS} (X : SS) (hX : IV A B X) : ok (f_X6_checksum X) (fun r => True) := by
  unfold f_X6_checksum
  refine ok_lq (fun v1 e1 => ?_)
  have p2 : FU (0 : Int32) 40 1000 := by
    exact FU.start (by grind) (by decide)
  refine s_X6_checksum_L6 X hX 1000 (0 : Int32) v1 _ p2 ⟨by decide, by decide⟩ (fun v3 => ?_)
  have p3 : FU (0 : Int32) 10 1000 := by
    exact FU.start (by grind) (by decide)
  refine s_X6_checksum_L56 X hX 1000 (0 : Int32) v3 _ p3 ⟨by decide, by decide⟩ (fun v7 => ?_)
  exact ok_some trivial
theorem s_X6_standingShare_L22 {A : Nat → Nat → Nat → Prop} {B : SS} (X : SS) (hX : IV A B X) : ∀ (n : Nat), ∀ (v4 : Int32) (v5 : Int32) (k2 : (Int32 → Option ((UInt32 ⊕ String)))), (FU v4 40 n) → ((0 : Int32) ≤ v4 ∧ v4 ≤ (40 : Int32)) → (∀ (k_0 : Int32), ok (k2 k_0) (fun r => se (fun v => vf_n32 v) (fun E => E = "java/lang/ArithmeticException") r)) → ok (f_X6_standingShare_L22 X n v4 v5 k2) (fun r => se (fun v => vf_n32 v) (fun E => E = "java/lang/ArithmeticException") r) := by
  intro n
  induction n with
  | zero =>
    intro v4 v5 k2 hF iv4 hk
    exact (FU.stop hF (show v4 ≤ (40 : Int32) by grind)).elim
  | succ n ih =>
    intro v4 v5 k2 hF iv4 hk
    rw [f_X6_standingShare_L22]
    refine ok_ite (fun q1 => ?_) (fun q1 => ?_)
    · exact hk v5
    · refine ok_gd ?_ (fun g2 => ?_)
      · have c3 : (0 : Int32) ≤ (X.1 0 0 11) ∧ (X.1 0 0 11) ≤ (40 : Int32) := hX.at1 0 0 11
        exact vp_of (by decide) (by grind) (show v4 < (40 : Int32) by grind)
      have g2 := vp_to (by decide) g2
      have g2 : (0 : Int32) ≤ v4 ∧ v4 < (40 : Int32) := g2
      refine ok_b0 (s_X5_isCounted X hX (v4).toNatClampNeg) (fun v9 w4 => ?_)
      have w5 : (0 : Int32) ≤ v9 ∧ v9 ≤ (1 : Int32) := w4
      refine ok_ite (fun q6 => ?_) (fun q6 => ?_)
      · have p7 : FU (v4 + (1 : Int32)) 40 _ := by
          have c8 : (0 : Int32) ≤ (X.1 0 0 11) ∧ (X.1 0 0 11) ≤ (40 : Int32) := hX.at1 0 0 11
          exact FU.step hF (by grind)
        have p9 : (0 : Int32) ≤ (v4 + (1 : Int32)) ∧ (v4 + (1 : Int32)) ≤ (40 : Int32) := by
          have c10 : (0 : Int32) ≤ (X.1 0 0 11) ∧ (X.1 0 0 11) ≤ (40 : Int32) := hX.at1 0 0 11
          exact ⟨by grind, by grind⟩
        exact ih (v4 + (1 : Int32)) v5 k2 p7 p9 hk
      · have p11 : FU (v4 + (1 : Int32)) 40 _ := by
          have c12 : (0 : Int32) ≤ (X.1 0 0 11) ∧ (X.1 0 0 11) ≤ (40 : Int32) := hX.at1 0 0 11
          exact FU.step hF (by grind)
        have p13 : (0 : Int32) ≤ (v4 + (1 : Int32)) ∧ (v4 + (1 : Int32)) ≤ (40 : Int32) := by
          have c14 : (0 : Int32) ≤ (X.1 0 0 11) ∧ (X.1 0 0 11) ≤ (40 : Int32) := hX.at1 0 0 11
          exact ⟨by grind, by grind⟩
        exact ih (v4 + (1 : Int32)) (v5 + (1 : Int32)) k2 p11 p13 hk
theorem s_X6_standingShare {A : Nat → Nat → Nat → Prop} {B : SS} (X : SS) (hX : IV A B X) : ok (f_X6_standingShare X) (fun r => se (fun v => vf_n32 v) (fun E => E = "java/lang/ArithmeticException") r) := by
  unfold f_X6_standingShare
  refine ok_ite (fun q1 => ?_) (fun q1 => ?_)
  · have p2 : "java/lang/ArithmeticException" = "java/lang/ArithmeticException" := by simp
    exact ok_some p2
  · have p3 : FU (0 : Int32) 40 1000 := by
      exact FU.start (by grind) (by decide)
    refine s_X6_standingShare_L22 X hX 1000 (0 : Int32) (0 : Int32) _ p3 ⟨by decide, by decide⟩ (fun v3 => ?_)
    refine ok_gd ?_ (fun g4 => ?_)
    · have z5 : ¬ ((X.1 0 0 11) = 0) := by
        have c6 : (0 : Int32) ≤ (X.1 0 0 11) ∧ (X.1 0 0 11) ≤ (40 : Int32) := hX.at1 0 0 11
        grind
      exact nn_fdiv z5
    exact ok_some (nn_fdiv z5)
theorem s_X6_meanSteps_L14 {A : Nat → Nat → Nat → Prop} {B : SS} (i1 : Nat) (a1 : A 16 1 4) (a2 : A 16 1 5) (a3 : A 16 1 6) (a4 : A 16 1 7) (a5 : A 16 1 8) (a6 : ∀ p, A 17 1 p) (a7 : ∀ p, A 18 1 p) (a8 : ∀ p, A 19 1 p) (a9 : ∀ p, A 20 1 p) : ∀ (n : Nat), ∀ (v11 : Int32) (v12 : Int32) (v13 : Int32) (X14 : SS) (k7 : (Int32 → Int32 → SS → Option (SS × (UInt64 ⊕ String)))), (FU v11 5 n) → ((0 : Int32) ≤ v11 ∧ v11 ≤ (5 : Int32)) → (IV A B X14) → (∀ (k_0 : Int32) (k_1 : Int32) (k_2 : SS), (IV A B k_2) → ok (k7 k_0 k_1 k_2) (fun r => IV A B r.1 ∧ se (fun v => vf_n64 v) (fun E => E = "java/lang/ArithmeticException" ∨ E = "java/lang/IndexOutOfBoundsException") r.2)) → ok (f_X6_meanSteps_L14 i1 n v11 v12 v13 X14 k7) (fun r => IV A B r.1 ∧ se (fun v => vf_n64 v) (fun E => E = "java/lang/ArithmeticException" ∨ E = "java/lang/IndexOutOfBoundsException") r.2) := by
  intro n
  induction n with
  | zero =>
    intro v11 v12 v13 X14 k7 hF iv11 hX14 hk
    exact (FU.stop hF (show v11 ≤ (5 : Int32) by grind)).elim
  | succ n ih =>
    intro v11 v12 v13 X14 k7 hF iv11 hX14 hk
    rw [f_X6_meanSteps_L14]
    refine ok_gd ?_ (fun g1 => ?_)
    · have c2 : (0 : Int32) ≤ (X14.1 12 i1 8) ∧ (X14.1 12 i1 8) ≤ (7 : Int32) := hX14.at1 12 i1 8
      exact vp_of (by decide) (by grind) (show (X14.1 12 i1 8) < (8 : Int32) by grind)
    have g1 := vp_to (by decide) g1
    have g1 : (0 : Int32) ≤ (X14.1 12 i1 8) ∧ (X14.1 12 i1 8) < (8 : Int32) := g1
    refine ok_ite (fun q3 => ?_) (fun q3 => ?_)
    · exact hk v12 v13 X14 hX14
    · refine ok_b1 (s_X6_stepsTold X14 hX14 i1 v11 (a1) (a2) (a3) (a4) (a5) (fun p => a6 p) (fun p => a7 p) (fun p => a8 p) (fun p => a9 p)) (fun X20 v19 w4 => ?_)
      have hX20 : IV A B X20 := w4.1
      refine ok_ite (fun q5 => ?_) (fun q5 => ?_)
      · have p6 : FU (v11 + (1 : Int32)) 5 _ := by
          have c7 : (0 : Int32) ≤ (X14.1 7 ((X14.1 12 i1 8)).toNatClampNeg 1) ∧ (X14.1 7 ((X14.1 12 i1 8)).toNatClampNeg 1) ≤ (5 : Int32) := hX14.at1 7 (((X14.1 12 i1 8)).toNatClampNeg) 1
          have c8 : (0 : Int32) ≤ (X14.1 12 i1 8) ∧ (X14.1 12 i1 8) ≤ (7 : Int32) := hX14.at1 12 i1 8
          exact FU.step hF (by grind)
        have p9 : (0 : Int32) ≤ (v11 + (1 : Int32)) ∧ (v11 + (1 : Int32)) ≤ (5 : Int32) := by
          have c10 : (0 : Int32) ≤ (X14.1 7 ((X14.1 12 i1 8)).toNatClampNeg 1) ∧ (X14.1 7 ((X14.1 12 i1 8)).toNatClampNeg 1) ≤ (5 : Int32) := hX14.at1 7 (((X14.1 12 i1 8)).toNatClampNeg) 1
          have c11 : (0 : Int32) ≤ (X14.1 12 i1 8) ∧ (X14.1 12 i1 8) ≤ (7 : Int32) := hX14.at1 12 i1 8
          exact ⟨by grind, by grind⟩
        exact ih (v11 + (1 : Int32)) v12 v13 X20 k7 p6 p9 hX20 hk
      · refine ok_lq (fun v23 e12 => ?_)
        have p13 : FU (v11 + (1 : Int32)) 5 _ := by
          have c14 : (0 : Int32) ≤ (X14.1 7 ((X14.1 12 i1 8)).toNatClampNeg 1) ∧ (X14.1 7 ((X14.1 12 i1 8)).toNatClampNeg 1) ≤ (5 : Int32) := hX14.at1 7 (((X14.1 12 i1 8)).toNatClampNeg) 1
          have c15 : (0 : Int32) ≤ (X14.1 12 i1 8) ∧ (X14.1 12 i1 8) ≤ (7 : Int32) := hX14.at1 12 i1 8
          exact FU.step hF (by grind)
        have p16 : (0 : Int32) ≤ (v11 + (1 : Int32)) ∧ (v11 + (1 : Int32)) ≤ (5 : Int32) := by
          have c17 : (0 : Int32) ≤ (X14.1 7 ((X14.1 12 i1 8)).toNatClampNeg 1) ∧ (X14.1 7 ((X14.1 12 i1 8)).toNatClampNeg 1) ≤ (5 : Int32) := hX14.at1 7 (((X14.1 12 i1 8)).toNatClampNeg) 1
          have c18 : (0 : Int32) ≤ (X14.1 12 i1 8) ∧ (X14.1 12 i1 8) ≤ (7 : Int32) := hX14.at1 12 i1 8
          exact ⟨by grind, by grind⟩
        exact ih (v11 + (1 : Int32)) (v12 + (1 : Int32)) v23 X20 k7 p13 p16 hX20 hk
theorem s_X6_meanSteps {A : Nat → Nat → Nat → Prop} {B : SS} (X : SS) (hX : IV A B X) (p0 : Int32) (a1 : A 16 1 4) (a2 : A 16 1 5) (a3 : A 16 1 6) (a4 : A 16 1 7) (a5 : A 16 1 8) (a6 : ∀ p, A 17 1 p) (a7 : ∀ p, A 18 1 p) (a8 : ∀ p, A 19 1 p) (a9 : ∀ p, A 20 1 p) : ok (f_X6_meanSteps X p0) (fun r => IV A B r.1 ∧ se (fun v => vf_n64 v) (fun E => E = "java/lang/ArithmeticException" ∨ E = "java/lang/IndexOutOfBoundsException") r.2) := by
  unfold f_X6_meanSteps
  refine ok_e0 (s_X6_workAt X hX p0) (fun i1 w1 => ?_) (fun E4 w1 => ?_)
  · have p2 : FU (0 : Int32) 5 1000 := by
      exact FU.start (by grind) (by decide)
    refine s_X6_meanSteps_L14 i1 (a1) (a2) (a3) (a4) (a5) (fun p => a6 p) (fun p => a7 p) (fun p => a8 p) (fun p => a9 p) 1000 (0 : Int32) (0 : Int32) (0 : Int32) X _ p2 ⟨by decide, by decide⟩ hX (fun v8 v9 X10 hX10 => ?_)
    refine ok_ite (fun q3 => ?_) (fun q3 => ?_)
    · have p4 : "java/lang/ArithmeticException" = "java/lang/ArithmeticException" ∨ "java/lang/ArithmeticException" = "java/lang/IndexOutOfBoundsException" := by simp
      exact ok_some ⟨hX10, p4⟩
    · refine ok_gd ?_ (fun g5 => ?_)
      · have z6 : ¬ (v8 = 0) := by
          grind
        exact nn_ddiv z6
      exact ok_some ⟨hX10, (nn_ddiv z6)⟩
  · have w7 : E4 = "java/lang/IndexOutOfBoundsException" := w1
    have p8 : E4 = "java/lang/ArithmeticException" ∨ E4 = "java/lang/IndexOutOfBoundsException" := by grind
    exact ok_some ⟨hX, p8⟩
theorem s_X6_areBodiesSound_L2 {A : Nat → Nat → Nat → Prop} {B : SS} (a1 : A 16 1 4) (a2 : A 16 1 5) (a3 : A 16 1 6) (a4 : A 16 1 7) (a5 : A 16 1 8) (a6 : ∀ p, A 17 1 p) (a7 : ∀ p, A 18 1 p) (a8 : ∀ p, A 19 1 p) (a9 : ∀ p, A 20 1 p) : ∀ (n : Nat), ∀ (v3 : Int32) (X4 : SS) (k1 : (SS → Option (SS × Int32))), (FU v3 40 n) → ((0 : Int32) ≤ v3 ∧ v3 ≤ (40 : Int32)) → (IV A B X4) → (∀ (k_0 : SS), (IV A B k_0) → ok (k1 k_0) (fun r => IV A B r.1 ∧ (0 : Int32) ≤ r.2 ∧ r.2 ≤ (1 : Int32))) → ok (f_X6_areBodiesSound_L2 n v3 X4 k1) (fun r => IV A B r.1 ∧ (0 : Int32) ≤ r.2 ∧ r.2 ≤ (1 : Int32)) := by
  intro n
  induction n with
  | zero =>
    intro v3 X4 k1 hF iv3 hX4 hk
    exact (FU.stop hF (show v3 ≤ (40 : Int32) by grind)).elim
  | succ n ih =>
    intro v3 X4 k1 hF iv3 hX4 hk
    rw [f_X6_areBodiesSound_L2]
    refine ok_ite (fun q1 => ?_) (fun q1 => ?_)
    · exact hk X4 hX4
    · refine ok_gd ?_ (fun g2 => ?_)
      · have c3 : (0 : Int32) ≤ (X4.1 0 0 11) ∧ (X4.1 0 0 11) ≤ (40 : Int32) := hX4.at1 0 0 11
        exact vp_of (by decide) (by grind) (show v3 < (40 : Int32) by grind)
      have g2 := vp_to (by decide) g2
      have g2 : (0 : Int32) ≤ v3 ∧ v3 < (40 : Int32) := g2
      refine ok_ite (fun q4 => ?_) (fun q4 => ?_)
      · have p5 : FU (v3 + (1 : Int32)) 40 _ := by
          have c6 : (0 : Int32) ≤ (X4.1 0 0 11) ∧ (X4.1 0 0 11) ≤ (40 : Int32) := hX4.at1 0 0 11
          have c7 : (0 : Int32) ≤ (X4.1 12 (v3).toNatClampNeg 12) ∧ (X4.1 12 (v3).toNatClampNeg 12) ≤ (1 : Int32) := hX4.at1 12 ((v3).toNatClampNeg) 12
          exact FU.step hF (by grind)
        have p8 : (0 : Int32) ≤ (v3 + (1 : Int32)) ∧ (v3 + (1 : Int32)) ≤ (40 : Int32) := by
          have c9 : (0 : Int32) ≤ (X4.1 0 0 11) ∧ (X4.1 0 0 11) ≤ (40 : Int32) := hX4.at1 0 0 11
          have c10 : (0 : Int32) ≤ (X4.1 12 (v3).toNatClampNeg 12) ∧ (X4.1 12 (v3).toNatClampNeg 12) ≤ (1 : Int32) := hX4.at1 12 ((v3).toNatClampNeg) 12
          exact ⟨by grind, by grind⟩
        exact ih (v3 + (1 : Int32)) X4 k1 p5 p8 hX4 hk
      · refine ok_b0 (s_X3_sumOfAll X4 hX4 ((v3).toNatClampNeg + 1)) (fun v8 w11 => ?_)
        refine ok_ite (fun q12 => ?_) (fun q12 => ?_)
        · refine ok_b1 (s_X6_verdictOn X4 hX4 (v3).toNatClampNeg (a1) (a2) (a3) (a4) (a5) (fun p => a6 p) (fun p => a7 p) (fun p => a8 p) (fun p => a9 p)) (fun X12 v11 w13 => ?_)
          have hX12 : IV A B X12 := w13.1
          have w14 : (102 : Int32) ≤ v11 ∧ v11 ≤ (115 : Int32) := w13.2
          refine ok_ite (fun q15 => ?_) (fun q15 => ?_)
          · have p16 : FU (v3 + (1 : Int32)) 40 _ := by
              have c17 : (0 : Int32) ≤ (X4.1 0 0 11) ∧ (X4.1 0 0 11) ≤ (40 : Int32) := hX4.at1 0 0 11
              have c18 : (0 : Int32) ≤ (X4.1 12 (v3).toNatClampNeg 12) ∧ (X4.1 12 (v3).toNatClampNeg 12) ≤ (1 : Int32) := hX4.at1 12 ((v3).toNatClampNeg) 12
              have c19 : (0 : Int32) ≤ (X4.1 12 (v3).toNatClampNeg 11) ∧ (X4.1 12 (v3).toNatClampNeg 11) ≤ (65535 : Int32) := hX4.at1 12 ((v3).toNatClampNeg) 11
              exact FU.step hF (by grind)
            have p20 : (0 : Int32) ≤ (v3 + (1 : Int32)) ∧ (v3 + (1 : Int32)) ≤ (40 : Int32) := by
              have c21 : (0 : Int32) ≤ (X4.1 0 0 11) ∧ (X4.1 0 0 11) ≤ (40 : Int32) := hX4.at1 0 0 11
              have c22 : (0 : Int32) ≤ (X4.1 12 (v3).toNatClampNeg 12) ∧ (X4.1 12 (v3).toNatClampNeg 12) ≤ (1 : Int32) := hX4.at1 12 ((v3).toNatClampNeg) 12
              have c23 : (0 : Int32) ≤ (X4.1 12 (v3).toNatClampNeg 11) ∧ (X4.1 12 (v3).toNatClampNeg 11) ≤ (65535 : Int32) := hX4.at1 12 ((v3).toNatClampNeg) 11
              exact ⟨by grind, by grind⟩
            exact ih (v3 + (1 : Int32)) X12 k1 p16 p20 hX12 hk
          · have p24 : (0 : Int32) ≤ (0 : Int32) ∧ (0 : Int32) ≤ (1 : Int32) := by
              exact ⟨by grind, by grind⟩
            exact ok_some ⟨hX12, p24⟩
        · have p25 : (0 : Int32) ≤ (0 : Int32) ∧ (0 : Int32) ≤ (1 : Int32) := by
            exact ⟨by grind, by grind⟩
          exact ok_some ⟨hX4, p25⟩