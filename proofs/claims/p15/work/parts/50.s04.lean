theorem s_X6_areBodiesSound {A : Nat → Nat → Nat → Prop} {B : SS} (X : SS) (hX : IV A B X) (a1 : A 16 1 4) (a2 : A 16 1 5) (a3 : A 16 1 6) (a4 : A 16 1 7) (a5 : A 16 1 8) (a6 : ∀ p, A 17 1 p) (a7 : ∀ p, A 18 1 p) (a8 : ∀ p, A 19 1 p) (a9 : ∀ p, A 20 1 p) : ok (f_X6_areBodiesSound X) (fun r => IV A B r.1 ∧ (0 : Int32) ≤ r.2 ∧ r.2 ≤ (1 : Int32)) := by
  unfold f_X6_areBodiesSound
  have p1 : FU (0 : Int32) 40 1000 := by
    exact FU.start (by grind) (by decide)
  refine s_X6_areBodiesSound_L2 (a1) (a2) (a3) (a4) (a5) (fun p => a6 p) (fun p => a7 p) (fun p => a8 p) (fun p => a9 p) 1000 (0 : Int32) X _ p1 ⟨by decide, by decide⟩ hX (fun X2 hX2 => ?_)
  have p2 : (0 : Int32) ≤ (1 : Int32) ∧ (1 : Int32) ≤ (1 : Int32) := by
    exact ⟨by grind, by grind⟩
  exact ok_some ⟨hX2, p2⟩
theorem s_X6_beltFromBehind_L11 {A : Nat → Nat → Nat → Prop} {B : SS} (p0 : Int32) (ip0 : (0 : Int32) ≤ p0 ∧ p0 ≤ (9 : Int32)) (a1 : ∀ p, A 25 0 p) : ∀ (n : Nat), ∀ (v7 : Int32) (X8 : SS) (k5 : (SS → Option (SS × Int32))), (FD v7 n) → (((-1) : Int32) ≤ v7 ∧ v7 ≤ (39 : Int32)) → (IV A B X8) → (∀ (k_0 : SS), (IV A B k_0) → ok (k5 k_0) (fun r => IV A B r.1 ∧ (0 : Int32) ≤ r.2 ∧ r.2 ≤ (5 : Int32))) → ok (f_X6_beltFromBehind_L11 p0 n v7 X8 k5) (fun r => IV A B r.1 ∧ (0 : Int32) ≤ r.2 ∧ r.2 ≤ (5 : Int32)) := by
  intro n
  induction n with
  | zero =>
    intro v7 X8 k5 hF iv7 hX8 hk
    exact (FD.stop hF (by grind)).elim
  | succ n ih =>
    intro v7 X8 k5 hF iv7 hX8 hk
    rw [f_X6_beltFromBehind_L11]
    refine ok_ite (fun q1 => ?_) (fun q1 => ?_)
    · exact hk X8 hX8
    · refine ok_gd ?_ (fun g2 => ?_)
      · exact vp_of (by decide) (by grind) (show v7 < (40 : Int32) by grind)
      have g2 := vp_to (by decide) g2
      have g2 : (0 : Int32) ≤ v7 ∧ v7 < (40 : Int32) := g2
      refine ok_ite (fun q3 => ?_) (fun q3 => ?_)
      · refine ok_b0 (s_X5_isCounted X8 hX8 (v7).toNatClampNeg) (fun v14 w4 => ?_)
        have w5 : (0 : Int32) ≤ v14 ∧ v14 ≤ (1 : Int32) := w4
        refine ok_ite (fun q6 => ?_) (fun q6 => ?_)
        · have p7 : FD (v7 + ((-1) : Int32)) _ := by
            have c8 : (0 : Int32) ≤ (X8.1 12 (v7).toNatClampNeg 7) ∧ (X8.1 12 (v7).toNatClampNeg 7) ≤ (9 : Int32) := hX8.at1 12 ((v7).toNatClampNeg) 7
            exact FD.step hF (by grind)
          have p9 : ((-1) : Int32) ≤ (v7 + ((-1) : Int32)) ∧ (v7 + ((-1) : Int32)) ≤ (39 : Int32) := by
            have c10 : (0 : Int32) ≤ (X8.1 12 (v7).toNatClampNeg 7) ∧ (X8.1 12 (v7).toNatClampNeg 7) ≤ (9 : Int32) := hX8.at1 12 ((v7).toNatClampNeg) 7
            exact ⟨by grind, by grind⟩
          exact ih (v7 + ((-1) : Int32)) X8 k5 p7 p9 hX8 hk
        · refine ok_gd ?_ (fun g11 => ?_)
          · have c12 : (0 : Int32) ≤ (X8.1 12 (v7).toNatClampNeg 8) ∧ (X8.1 12 (v7).toNatClampNeg 8) ≤ (7 : Int32) := hX8.at1 12 ((v7).toNatClampNeg) 8
            have c13 : (0 : Int32) ≤ (X8.1 12 (v7).toNatClampNeg 7) ∧ (X8.1 12 (v7).toNatClampNeg 7) ≤ (9 : Int32) := hX8.at1 12 ((v7).toNatClampNeg) 7
            exact vp_of (by decide) (by grind) (show (X8.1 12 (v7).toNatClampNeg 8) < (8 : Int32) by grind)
          have g11 := vp_to (by decide) g11
          have g11 : (0 : Int32) ≤ (X8.1 12 (v7).toNatClampNeg 8) ∧ (X8.1 12 (v7).toNatClampNeg 8) < (8 : Int32) := g11
          refine ok_lq (fun v18 e14 => ?_)
          refine ok_ite (fun q15 => ?_) (fun q15 => ?_)
          · refine ok_gd ?_ (fun g16 => ?_)
            · have c17 : (0 : Int32) ≤ (X8.1 12 (v7).toNatClampNeg 8) ∧ (X8.1 12 (v7).toNatClampNeg 8) ≤ (7 : Int32) := hX8.at1 12 ((v7).toNatClampNeg) 8
              have c18 : (0 : Int32) ≤ (X8.1 12 (v7).toNatClampNeg 7) ∧ (X8.1 12 (v7).toNatClampNeg 7) ≤ (9 : Int32) := hX8.at1 12 ((v7).toNatClampNeg) 7
              exact vp_of (by decide) (by grind) (show (X8.1 12 (v7).toNatClampNeg 8) < (8 : Int32) by grind)
            have g16 := vp_to (by decide) g16
            have g16 : (0 : Int32) ≤ (X8.1 12 (v7).toNatClampNeg 8) ∧ (X8.1 12 (v7).toNatClampNeg 8) < (8 : Int32) := g16
            refine ok_lq (fun X21 e19 => ?_)
            have p20 : ((-1) : Int32) ≤ v7 ∧ v7 ≤ (39 : Int32) := by
              have c21 : (0 : Int32) ≤ (X8.1 12 (v7).toNatClampNeg 7) ∧ (X8.1 12 (v7).toNatClampNeg 7) ≤ (9 : Int32) := hX8.at1 12 ((v7).toNatClampNeg) 7
              have c22 : (0 : Int32) ≤ (X8.1 12 (v7).toNatClampNeg 8) ∧ (X8.1 12 (v7).toNatClampNeg 8) ≤ (7 : Int32) := hX8.at1 12 ((v7).toNatClampNeg) 8
              exact ⟨by grind, by grind⟩
            have hX21 : IV A B X21 := by rw [e19]; exact hX8.u1 rfl (a1 (((X8.1 12 (v7).toNatClampNeg 8)).toNatClampNeg)) p20
            have p23 : FD (v7 + ((-1) : Int32)) _ := by
              have c24 : (0 : Int32) ≤ (X8.1 12 (v7).toNatClampNeg 7) ∧ (X8.1 12 (v7).toNatClampNeg 7) ≤ (9 : Int32) := hX8.at1 12 ((v7).toNatClampNeg) 7
              have c25 : (0 : Int32) ≤ (X8.1 12 (v7).toNatClampNeg 8) ∧ (X8.1 12 (v7).toNatClampNeg 8) ≤ (7 : Int32) := hX8.at1 12 ((v7).toNatClampNeg) 8
              exact FD.step hF (by grind)
            have p26 : ((-1) : Int32) ≤ (v7 + ((-1) : Int32)) ∧ (v7 + ((-1) : Int32)) ≤ (39 : Int32) := by
              have c27 : (0 : Int32) ≤ (X8.1 12 (v7).toNatClampNeg 7) ∧ (X8.1 12 (v7).toNatClampNeg 7) ≤ (9 : Int32) := hX8.at1 12 ((v7).toNatClampNeg) 7
              have c28 : (0 : Int32) ≤ (X8.1 12 (v7).toNatClampNeg 8) ∧ (X8.1 12 (v7).toNatClampNeg 8) ≤ (7 : Int32) := hX8.at1 12 ((v7).toNatClampNeg) 8
              exact ⟨by grind, by grind⟩
            exact ih (v7 + ((-1) : Int32)) X21 k5 p23 p26 hX21 hk
          · refine ok_gd ?_ (fun g29 => ?_)
            · have c30 : ((-1) : Int32) ≤ (X8.1 25 0 ((X8.1 12 (v7).toNatClampNeg 8)).toNatClampNeg) ∧ (X8.1 25 0 ((X8.1 12 (v7).toNatClampNeg 8)).toNatClampNeg) ≤ (39 : Int32) := hX8.at1 25 0 (((X8.1 12 (v7).toNatClampNeg 8)).toNatClampNeg)
              have c31 : (0 : Int32) ≤ (X8.1 12 (v7).toNatClampNeg 8) ∧ (X8.1 12 (v7).toNatClampNeg 8) ≤ (7 : Int32) := hX8.at1 12 ((v7).toNatClampNeg) 8
              have c32 : (0 : Int32) ≤ (X8.1 12 (v7).toNatClampNeg 7) ∧ (X8.1 12 (v7).toNatClampNeg 7) ≤ (9 : Int32) := hX8.at1 12 ((v7).toNatClampNeg) 7
              exact vp_of (by decide) (by grind) (show v18 < (40 : Int32) by grind)
            have g29 := vp_to (by decide) g29
            have g29 : (0 : Int32) ≤ v18 ∧ v18 < (40 : Int32) := g29
            refine ok_b0 (s_X5_hasGreaterStyleThan X8 hX8 (v18).toNatClampNeg (v7).toNatClampNeg) (fun v23 w33 => ?_)
            have w34 : (0 : Int32) ≤ v23 ∧ v23 ≤ (1 : Int32) := w33
            refine ok_ite (fun q35 => ?_) (fun q35 => ?_)
            · refine ok_gd ?_ (fun g36 => ?_)
              · have c37 : (0 : Int32) ≤ (X8.1 12 (v7).toNatClampNeg 8) ∧ (X8.1 12 (v7).toNatClampNeg 8) ≤ (7 : Int32) := hX8.at1 12 ((v7).toNatClampNeg) 8
                have c38 : (0 : Int32) ≤ (X8.1 12 (v7).toNatClampNeg 7) ∧ (X8.1 12 (v7).toNatClampNeg 7) ≤ (9 : Int32) := hX8.at1 12 ((v7).toNatClampNeg) 7
                exact vp_of (by decide) (by grind) (show (X8.1 12 (v7).toNatClampNeg 8) < (8 : Int32) by grind)
              have g36 := vp_to (by decide) g36
              have g36 : (0 : Int32) ≤ (X8.1 12 (v7).toNatClampNeg 8) ∧ (X8.1 12 (v7).toNatClampNeg 8) < (8 : Int32) := g36
              refine ok_lq (fun X27 e39 => ?_)
              have p40 : ((-1) : Int32) ≤ v7 ∧ v7 ≤ (39 : Int32) := by
                have c41 : (0 : Int32) ≤ (X8.1 12 (v7).toNatClampNeg 7) ∧ (X8.1 12 (v7).toNatClampNeg 7) ≤ (9 : Int32) := hX8.at1 12 ((v7).toNatClampNeg) 7
                have c42 : (0 : Int32) ≤ (X8.1 12 (v7).toNatClampNeg 8) ∧ (X8.1 12 (v7).toNatClampNeg 8) ≤ (7 : Int32) := hX8.at1 12 ((v7).toNatClampNeg) 8
                exact ⟨by grind, by grind⟩
              have hX27 : IV A B X27 := by rw [e39]; exact hX8.u1 rfl (a1 (((X8.1 12 (v7).toNatClampNeg 8)).toNatClampNeg)) p40
              have p43 : FD (v7 + ((-1) : Int32)) _ := by
                have c44 : (0 : Int32) ≤ (X8.1 12 (v7).toNatClampNeg 7) ∧ (X8.1 12 (v7).toNatClampNeg 7) ≤ (9 : Int32) := hX8.at1 12 ((v7).toNatClampNeg) 7
                have c45 : (0 : Int32) ≤ (X8.1 12 (v7).toNatClampNeg 8) ∧ (X8.1 12 (v7).toNatClampNeg 8) ≤ (7 : Int32) := hX8.at1 12 ((v7).toNatClampNeg) 8
                exact FD.step hF (by grind)
              have p46 : ((-1) : Int32) ≤ (v7 + ((-1) : Int32)) ∧ (v7 + ((-1) : Int32)) ≤ (39 : Int32) := by
                have c47 : (0 : Int32) ≤ (X8.1 12 (v7).toNatClampNeg 7) ∧ (X8.1 12 (v7).toNatClampNeg 7) ≤ (9 : Int32) := hX8.at1 12 ((v7).toNatClampNeg) 7
                have c48 : (0 : Int32) ≤ (X8.1 12 (v7).toNatClampNeg 8) ∧ (X8.1 12 (v7).toNatClampNeg 8) ≤ (7 : Int32) := hX8.at1 12 ((v7).toNatClampNeg) 8
                exact ⟨by grind, by grind⟩
              exact ih (v7 + ((-1) : Int32)) X27 k5 p43 p46 hX27 hk
            · have p49 : FD (v7 + ((-1) : Int32)) _ := by
                have c50 : (0 : Int32) ≤ (X8.1 12 (v7).toNatClampNeg 7) ∧ (X8.1 12 (v7).toNatClampNeg 7) ≤ (9 : Int32) := hX8.at1 12 ((v7).toNatClampNeg) 7
                have c51 : (0 : Int32) ≤ (X8.1 12 (v7).toNatClampNeg 8) ∧ (X8.1 12 (v7).toNatClampNeg 8) ≤ (7 : Int32) := hX8.at1 12 ((v7).toNatClampNeg) 8
                exact FD.step hF (by grind)
              have p52 : ((-1) : Int32) ≤ (v7 + ((-1) : Int32)) ∧ (v7 + ((-1) : Int32)) ≤ (39 : Int32) := by
                have c53 : (0 : Int32) ≤ (X8.1 12 (v7).toNatClampNeg 7) ∧ (X8.1 12 (v7).toNatClampNeg 7) ≤ (9 : Int32) := hX8.at1 12 ((v7).toNatClampNeg) 7
                have c54 : (0 : Int32) ≤ (X8.1 12 (v7).toNatClampNeg 8) ∧ (X8.1 12 (v7).toNatClampNeg 8) ≤ (7 : Int32) := hX8.at1 12 ((v7).toNatClampNeg) 8
                exact ⟨by grind, by grind⟩
              exact ih (v7 + ((-1) : Int32)) X8 k5 p49 p52 hX8 hk
      · have p55 : FD (v7 + ((-1) : Int32)) _ := by
          have c56 : (0 : Int32) ≤ (X8.1 12 (v7).toNatClampNeg 7) ∧ (X8.1 12 (v7).toNatClampNeg 7) ≤ (9 : Int32) := hX8.at1 12 ((v7).toNatClampNeg) 7
          exact FD.step hF (by grind)
        have p57 : ((-1) : Int32) ≤ (v7 + ((-1) : Int32)) ∧ (v7 + ((-1) : Int32)) ≤ (39 : Int32) := by
          have c58 : (0 : Int32) ≤ (X8.1 12 (v7).toNatClampNeg 7) ∧ (X8.1 12 (v7).toNatClampNeg 7) ≤ (9 : Int32) := hX8.at1 12 ((v7).toNatClampNeg) 7
          exact ⟨by grind, by grind⟩
        exact ih (v7 + ((-1) : Int32)) X8 k5 p55 p57 hX8 hk
theorem s_X6_beltFromBehind {A : Nat → Nat → Nat → Prop} {B : SS} (X : SS) (hX : IV A B X) (p0 : Int32) (ip0 : (0 : Int32) ≤ p0 ∧ p0 ≤ (9 : Int32)) (a1 : ∀ p, A 25 0 p) : ok (f_X6_beltFromBehind X p0) (fun r => IV A B r.1 ∧ (0 : Int32) ≤ r.2 ∧ r.2 ≤ (5 : Int32)) := by
  unfold f_X6_beltFromBehind
  refine ok_b1 (s_X6_takeNone X hX (fun p => a1 p)) (fun X2 v1 w1 => ?_)
  have hX2 : IV A B X2 := w1.1
  refine ok_lq (fun v4 e2 => ?_)
  have p3 : (0 : Int32) ≤ p0 ∧ p0 ≤ (9 : Int32) := by
    exact ⟨by grind, by grind⟩
  have p4 : FD v4 1000 := by
    have c5 : (0 : Int32) ≤ (X2.1 0 0 11) ∧ (X2.1 0 0 11) ≤ (40 : Int32) := hX2.at1 0 0 11
    exact FD.start (show v4 ≤ (900 : Int32) by grind)
  have p6 : ((-1) : Int32) ≤ v4 ∧ v4 ≤ (39 : Int32) := by
    have c7 : (0 : Int32) ≤ (X2.1 0 0 11) ∧ (X2.1 0 0 11) ≤ (40 : Int32) := hX2.at1 0 0 11
    exact ⟨by grind, by grind⟩
  refine s_X6_beltFromBehind_L11 p0 p3 (fun p => a1 p) 1000 v4 X2 _ p4 p6 hX2 (fun X6 hX6 => ?_)
  refine ok_b0 (s_X6_takenBelt X6 hX6) (fun v9 w8 => ?_)
  have w9 : (0 : Int32) ≤ v9 ∧ v9 ≤ (5 : Int32) := w8
  have p10 : (0 : Int32) ≤ v9 ∧ v9 ≤ (5 : Int32) := by
    exact ⟨by grind, by grind⟩
  exact ok_some ⟨hX6, p10⟩
theorem s_X6_areBeltsSound_L32 {A : Nat → Nat → Nat → Prop} {B : SS} (a1 : ∀ p, A 25 0 p) : ∀ (n : Nat), ∀ (v5 : Int32) (X6 : SS) (k3 : (SS → Option (SS × Int32))), (FU v5 10 n) → ((0 : Int32) ≤ v5 ∧ v5 ≤ (10 : Int32)) → (IV A B X6) → (∀ (k_0 : SS), (IV A B k_0) → ok (k3 k_0) (fun r => IV A B r.1 ∧ (0 : Int32) ≤ r.2 ∧ r.2 ≤ (1 : Int32))) → ok (f_X6_areBeltsSound_L32 n v5 X6 k3) (fun r => IV A B r.1 ∧ (0 : Int32) ≤ r.2 ∧ r.2 ≤ (1 : Int32)) := by
  intro n
  induction n with
  | zero =>
    intro v5 X6 k3 hF iv5 hX6 hk
    exact (FU.stop hF (show v5 ≤ (10 : Int32) by grind)).elim
  | succ n ih =>
    intro v5 X6 k3 hF iv5 hX6 hk
    rw [f_X6_areBeltsSound_L32]
    refine ok_ite (fun q1 => ?_) (fun q1 => ?_)
    · exact hk X6 hX6
    · refine ok_b1 (s_X6_beltOf X6 hX6 v5 (fun p => a1 p)) (fun X9 v8 w2 => ?_)
      have hX9 : IV A B X9 := w2.1
      have w3 : (0 : Int32) ≤ v8 ∧ v8 ≤ (5 : Int32) := w2.2
      have p4 : (0 : Int32) ≤ v5 ∧ v5 ≤ (9 : Int32) := by
        have c5 : (0 : Int32) ≤ (X6.1 0 0 10) ∧ (X6.1 0 0 10) ≤ (10 : Int32) := hX6.at1 0 0 10
        exact ⟨by grind, by grind⟩
      refine ok_b1 (s_X6_beltFromBehind X9 hX9 v5 p4 (fun p => a1 p)) (fun X12 v11 w6 => ?_)
      have hX12 : IV A B X12 := w6.1
      have w7 : (0 : Int32) ≤ v11 ∧ v11 ≤ (5 : Int32) := w6.2
      refine ok_ite (fun q8 => ?_) (fun q8 => ?_)
      · have p9 : FU (v5 + (1 : Int32)) 10 _ := by
          have c10 : (0 : Int32) ≤ (X6.1 0 0 10) ∧ (X6.1 0 0 10) ≤ (10 : Int32) := hX6.at1 0 0 10
          exact FU.step hF (by grind)
        have p11 : (0 : Int32) ≤ (v5 + (1 : Int32)) ∧ (v5 + (1 : Int32)) ≤ (10 : Int32) := by
          have c12 : (0 : Int32) ≤ (X6.1 0 0 10) ∧ (X6.1 0 0 10) ≤ (10 : Int32) := hX6.at1 0 0 10
          exact ⟨by grind, by grind⟩
        exact ih (v5 + (1 : Int32)) X12 k3 p9 p11 hX12 hk
      · have p13 : (0 : Int32) ≤ (0 : Int32) ∧ (0 : Int32) ≤ (1 : Int32) := by
          exact ⟨by grind, by grind⟩
        exact ok_some ⟨hX12, p13⟩
theorem s_X6_areBeltsSound_L2 {A : Nat → Nat → Nat → Prop} {B : SS} (X : SS) (hX : IV A B X) : ∀ (n : Nat), ∀ (v2 : Int32) (k1 : (Unit → Option (SS × Int32))), (FU v2 40 n) → ((0 : Int32) ≤ v2 ∧ v2 ≤ (40 : Int32)) → (∀ (k_0 : Unit), ok (k1 k_0) (fun r => IV A B r.1 ∧ (0 : Int32) ≤ r.2 ∧ r.2 ≤ (1 : Int32))) → ok (f_X6_areBeltsSound_L2 X n v2 k1) (fun r => IV A B r.1 ∧ (0 : Int32) ≤ r.2 ∧ r.2 ≤ (1 : Int32)) := by
  intro n
  induction n with
  | zero =>
    intro v2 k1 hF iv2 hk
    exact (FU.stop hF (show v2 ≤ (40 : Int32) by grind)).elim
  | succ n ih =>
    intro v2 k1 hF iv2 hk
    rw [f_X6_areBeltsSound_L2]
    refine ok_ite (fun q1 => ?_) (fun q1 => ?_)
    · exact hk ()
    · refine ok_gd ?_ (fun g2 => ?_)
      · have c3 : (0 : Int32) ≤ (X.1 0 0 11) ∧ (X.1 0 0 11) ≤ (40 : Int32) := hX.at1 0 0 11
        exact vp_of (by decide) (by grind) (show v2 < (40 : Int32) by grind)
      have g2 := vp_to (by decide) g2
      have g2 : (0 : Int32) ≤ v2 ∧ v2 < (40 : Int32) := g2
      refine ok_b0 (s_X5_areSumsOfVotes X hX (v2).toNatClampNeg) (fun v17 w4 => ?_)
      have w5 : (0 : Int32) ≤ v17 ∧ v17 ≤ (1 : Int32) := w4
      refine ok_ite (fun q6 => ?_) (fun q6 => ?_)
      · have p7 : (0 : Int32) ≤ (0 : Int32) ∧ (0 : Int32) ≤ (1 : Int32) := by
          exact ⟨by grind, by grind⟩
        exact ok_some ⟨hX, p7⟩
      · have p8 : FU (v2 + (1 : Int32)) 40 _ := by
          have c9 : (0 : Int32) ≤ (X.1 0 0 11) ∧ (X.1 0 0 11) ≤ (40 : Int32) := hX.at1 0 0 11
          exact FU.step hF (by grind)
        have p10 : (0 : Int32) ≤ (v2 + (1 : Int32)) ∧ (v2 + (1 : Int32)) ≤ (40 : Int32) := by
          have c11 : (0 : Int32) ≤ (X.1 0 0 11) ∧ (X.1 0 0 11) ≤ (40 : Int32) := hX.at1 0 0 11
          exact ⟨by grind, by grind⟩
        exact ih (v2 + (1 : Int32)) k1 p8 p10 hk
theorem s_X6_areBeltsSound {A : Nat → Nat → Nat → Prop} {B : SS} (X : SS) (hX : IV A B X) (a1 : ∀ p, A 25 0 p) : ok (f_X6_areBeltsSound X) (fun r => IV A B r.1 ∧ (0 : Int32) ≤ r.2 ∧ r.2 ≤ (1 : Int32)) := by
  unfold f_X6_areBeltsSound
  have p1 : FU (0 : Int32) 40 1000 := by
    exact FU.start (by grind) (by decide)
  refine s_X6_areBeltsSound_L2 X hX 1000 (0 : Int32) _ p1 ⟨by decide, by decide⟩ (fun _ => ?_)
  have p2 : FU (0 : Int32) 10 1000 := by
    exact FU.start (by grind) (by decide)
  refine s_X6_areBeltsSound_L32 (fun p => a1 p) 1000 (0 : Int32) X _ p2 ⟨by decide, by decide⟩ hX (fun X4 hX4 => ?_)
  have p3 : (0 : Int32) ≤ (1 : Int32) ∧ (1 : Int32) ≤ (1 : Int32) := by
    exact ⟨by grind, by grind⟩
  exact ok_some ⟨hX4, p3⟩
theorem s_X6_isOpenTwice_L2 {A : Nat → Nat → Nat → Prop} {B : SS} (p0 : Int32) (ip0 : (0 : Int32) ≤ p0 ∧ p0 ≤ (7 : Int32)) (X : SS) (hX : IV A B X) : ∀ (n : Nat), ∀ (v2 : Int32) (k1 : (Unit → Option (Int32))), (FU v2 7 n) → ((0 : Int32) ≤ v2 ∧ v2 ≤ (7 : Int32)) → (∀ (k_0 : Unit), ok (k1 k_0) (fun r => (0 : Int32) ≤ r ∧ r ≤ (1 : Int32))) → ok (f_X6_isOpenTwice_L2 p0 X n v2 k1) (fun r => (0 : Int32) ≤ r ∧ r ≤ (1 : Int32)) := by
  intro n
  induction n with
  | zero =>
    intro v2 k1 hF iv2 hk
    exact (FU.stop hF (show v2 ≤ (7 : Int32) by grind)).elim
  | succ n ih =>
    intro v2 k1 hF iv2 hk
    rw [f_X6_isOpenTwice_L2]
    refine ok_ite (fun q1 => ?_) (fun q1 => ?_)
    · exact hk ()
    · refine ok_gd ?_ (fun g2 => ?_)
      · exact vp_of (by decide) (by grind) (show v2 < (8 : Int32) by grind)
      have g2 := vp_to (by decide) g2
      have g2 : (0 : Int32) ≤ v2 ∧ v2 < (8 : Int32) := g2
      refine ok_gd ?_ (fun g3 => ?_)
      · exact vp_of (by decide) (by grind) (show p0 < (8 : Int32) by grind)
      have g3 := vp_to (by decide) g3
      have g3 : (0 : Int32) ≤ p0 ∧ p0 < (8 : Int32) := g3
      refine ok_ite (fun q4 => ?_) (fun q4 => ?_)
      · have p5 : (0 : Int32) ≤ (1 : Int32) ∧ (1 : Int32) ≤ (1 : Int32) := by
          exact ⟨by grind, by grind⟩
        exact ok_some p5
      · have p6 : FU (v2 + (1 : Int32)) 7 _ := by
          have c7 : (0 : Int32) ≤ (X.1 24 0 (v2).toNatClampNeg) ∧ (X.1 24 0 (v2).toNatClampNeg) ≤ (39 : Int32) := hX.at1 24 0 ((v2).toNatClampNeg)
          have c8 : (0 : Int32) ≤ (X.1 24 0 (p0).toNatClampNeg) ∧ (X.1 24 0 (p0).toNatClampNeg) ≤ (39 : Int32) := hX.at1 24 0 ((p0).toNatClampNeg)
          exact FU.step hF (by grind)
        have p9 : (0 : Int32) ≤ (v2 + (1 : Int32)) ∧ (v2 + (1 : Int32)) ≤ (7 : Int32) := by
          have c10 : (0 : Int32) ≤ (X.1 24 0 (v2).toNatClampNeg) ∧ (X.1 24 0 (v2).toNatClampNeg) ≤ (39 : Int32) := hX.at1 24 0 ((v2).toNatClampNeg)
          have c11 : (0 : Int32) ≤ (X.1 24 0 (p0).toNatClampNeg) ∧ (X.1 24 0 (p0).toNatClampNeg) ≤ (39 : Int32) := hX.at1 24 0 ((p0).toNatClampNeg)
          exact ⟨by grind, by grind⟩
        exact ih (v2 + (1 : Int32)) k1 p6 p9 hk
theorem s_X6_isOpenTwice {A : Nat → Nat → Nat → Prop} {B : SS} (X : SS) (hX : IV A B X) (p0 : Int32) (ip0 : (0 : Int32) ≤ p0 ∧ p0 ≤ (7 : Int32)) : ok (f_X6_isOpenTwice X p0) (fun r => (0 : Int32) ≤ r ∧ r ≤ (1 : Int32)) := by
  unfold f_X6_isOpenTwice
  have p1 : (0 : Int32) ≤ p0 ∧ p0 ≤ (7 : Int32) := by
    exact ⟨by grind, by grind⟩
  have p2 : FU (0 : Int32) 7 1000 := by
    exact FU.start (by grind) (by decide)
  refine s_X6_isOpenTwice_L2 p0 p1 X hX 1000 (0 : Int32) _ p2 ⟨by decide, by decide⟩ (fun _ => ?_)
  have p3 : (0 : Int32) ≤ (0 : Int32) ∧ (0 : Int32) ≤ (1 : Int32) := by
    exact ⟨by grind, by grind⟩
  exact ok_some p3
theorem s_X6_areChallengesSound_L37 {A : Nat → Nat → Nat → Prop} {B : SS} (X : SS) (hX : IV A B X) : ∀ (n : Nat), ∀ (v6 : Int32) (k5 : (Unit → Option (Int32))), (FU v6 8 n) → ((0 : Int32) ≤ v6 ∧ v6 ≤ (8 : Int32)) → (∀ (k_0 : Unit), ok (k5 k_0) (fun r => (0 : Int32) ≤ r ∧ r ≤ (1 : Int32))) → ok (f_X6_areChallengesSound_L37 X n v6 k5) (fun r => (0 : Int32) ≤ r ∧ r ≤ (1 : Int32)) := by
  intro n
  induction n with
  | zero =>
    intro v6 k5 hF iv6 hk
    exact (FU.stop hF (show v6 ≤ (8 : Int32) by grind)).elim
  | succ n ih =>
    intro v6 k5 hF iv6 hk
    rw [f_X6_areChallengesSound_L37]
    refine ok_ite (fun q1 => ?_) (fun q1 => ?_)
    · exact hk ()
    · refine ok_gd ?_ (fun g2 => ?_)
      · have c3 : (0 : Int32) ≤ (X.1 0 0 12) ∧ (X.1 0 0 12) ≤ (8 : Int32) := hX.at1 0 0 12
        exact vp_of (by decide) (by grind) (show v6 < (8 : Int32) by grind)
      have g2 := vp_to (by decide) g2
      have g2 : (0 : Int32) ≤ v6 ∧ v6 < (8 : Int32) := g2
      refine ok_gd ?_ (fun g4 => ?_)
      · have c5 : (0 : Int32) ≤ (X.1 24 0 (v6).toNatClampNeg) ∧ (X.1 24 0 (v6).toNatClampNeg) ≤ (39 : Int32) := hX.at1 24 0 ((v6).toNatClampNeg)
        have c6 : (0 : Int32) ≤ (X.1 0 0 12) ∧ (X.1 0 0 12) ≤ (8 : Int32) := hX.at1 0 0 12
        exact vp_of (by decide) (by grind) (show (X.1 24 0 (v6).toNatClampNeg) < (40 : Int32) by grind)
      have g4 := vp_to (by decide) g4
      have g4 : (0 : Int32) ≤ (X.1 24 0 (v6).toNatClampNeg) ∧ (X.1 24 0 (v6).toNatClampNeg) < (40 : Int32) := g4
      refine ok_ite (fun q7 => ?_) (fun q7 => ?_)
      · have p8 : (0 : Int32) ≤ v6 ∧ v6 ≤ (7 : Int32) := by
          have c9 : (0 : Int32) ≤ (X.1 0 0 12) ∧ (X.1 0 0 12) ≤ (8 : Int32) := hX.at1 0 0 12
          have c10 : (0 : Int32) ≤ (X.1 24 0 (v6).toNatClampNeg) ∧ (X.1 24 0 (v6).toNatClampNeg) ≤ (39 : Int32) := hX.at1 24 0 ((v6).toNatClampNeg)
          have c11 : (0 : Int32) ≤ (X.1 12 ((X.1 24 0 (v6).toNatClampNeg)).toNatClampNeg 11) ∧ (X.1 12 ((X.1 24 0 (v6).toNatClampNeg)).toNatClampNeg 11) ≤ (65535 : Int32) := hX.at1 12 (((X.1 24 0 (v6).toNatClampNeg)).toNatClampNeg) 11
          exact ⟨by grind, by grind⟩
        refine ok_b0 (s_X6_isOpenTwice X hX v6 p8) (fun v12 w12 => ?_)
        have w13 : (0 : Int32) ≤ v12 ∧ v12 ≤ (1 : Int32) := w12
        refine ok_ite (fun q14 => ?_) (fun q14 => ?_)
        · have p15 : FU (v6 + (1 : Int32)) 8 _ := by
            have c16 : (0 : Int32) ≤ (X.1 0 0 12) ∧ (X.1 0 0 12) ≤ (8 : Int32) := hX.at1 0 0 12
            have c17 : (0 : Int32) ≤ (X.1 24 0 (v6).toNatClampNeg) ∧ (X.1 24 0 (v6).toNatClampNeg) ≤ (39 : Int32) := hX.at1 24 0 ((v6).toNatClampNeg)
            have c18 : (0 : Int32) ≤ (X.1 12 ((X.1 24 0 (v6).toNatClampNeg)).toNatClampNeg 11) ∧ (X.1 12 ((X.1 24 0 (v6).toNatClampNeg)).toNatClampNeg 11) ≤ (65535 : Int32) := hX.at1 12 (((X.1 24 0 (v6).toNatClampNeg)).toNatClampNeg) 11
            exact FU.step hF (by grind)
          have p19 : (0 : Int32) ≤ (v6 + (1 : Int32)) ∧ (v6 + (1 : Int32)) ≤ (8 : Int32) := by
            have c20 : (0 : Int32) ≤ (X.1 0 0 12) ∧ (X.1 0 0 12) ≤ (8 : Int32) := hX.at1 0 0 12
            have c21 : (0 : Int32) ≤ (X.1 24 0 (v6).toNatClampNeg) ∧ (X.1 24 0 (v6).toNatClampNeg) ≤ (39 : Int32) := hX.at1 24 0 ((v6).toNatClampNeg)
            have c22 : (0 : Int32) ≤ (X.1 12 ((X.1 24 0 (v6).toNatClampNeg)).toNatClampNeg 11) ∧ (X.1 12 ((X.1 24 0 (v6).toNatClampNeg)).toNatClampNeg 11) ≤ (65535 : Int32) := hX.at1 12 (((X.1 24 0 (v6).toNatClampNeg)).toNatClampNeg) 11
            exact ⟨by grind, by grind⟩
          exact ih (v6 + (1 : Int32)) k5 p15 p19 hk
        · have p23 : (0 : Int32) ≤ (0 : Int32) ∧ (0 : Int32) ≤ (1 : Int32) := by
            exact ⟨by grind, by grind⟩
          exact ok_some p23
      · have p24 : (0 : Int32) ≤ (0 : Int32) ∧ (0 : Int32) ≤ (1 : Int32) := by
          exact ⟨by grind, by grind⟩
        exact ok_some p24
theorem s_X6_areChallengesSound_L4 {A : Nat → Nat → Nat → Prop} {B : SS} (X : SS) (hX : IV A B X) : ∀ (n : Nat), ∀ (v3 : Int32) (v4 : Int32) (k1 : (Int32 → Option (Int32))), (FU v3 40 n) → ((0 : Int32) ≤ v3 ∧ v3 ≤ (40 : Int32)) → (∀ (k_0 : Int32), ok (k1 k_0) (fun r => (0 : Int32) ≤ r ∧ r ≤ (1 : Int32))) → ok (f_X6_areChallengesSound_L4 X n v3 v4 k1) (fun r => (0 : Int32) ≤ r ∧ r ≤ (1 : Int32)) := by
  intro n
  induction n with
  | zero =>
    intro v3 v4 k1 hF iv3 hk
    exact (FU.stop hF (show v3 ≤ (40 : Int32) by grind)).elim
  | succ n ih =>
    intro v3 v4 k1 hF iv3 hk
    rw [f_X6_areChallengesSound_L4]
    refine ok_ite (fun q1 => ?_) (fun q1 => ?_)
    · exact hk v4
    · refine ok_gd ?_ (fun g2 => ?_)
      · have c3 : (0 : Int32) ≤ (X.1 0 0 11) ∧ (X.1 0 0 11) ≤ (40 : Int32) := hX.at1 0 0 11
        exact vp_of (by decide) (by grind) (show v3 < (40 : Int32) by grind)
      have g2 := vp_to (by decide) g2
      have g2 : (0 : Int32) ≤ v3 ∧ v3 < (40 : Int32) := g2
      refine ok_ite (fun q4 => ?_) (fun q4 => ?_)
      · have p5 : FU (v3 + (1 : Int32)) 40 _ := by
          have c6 : (0 : Int32) ≤ (X.1 0 0 11) ∧ (X.1 0 0 11) ≤ (40 : Int32) := hX.at1 0 0 11
          have c7 : (0 : Int32) ≤ (X.1 12 (v3).toNatClampNeg 11) ∧ (X.1 12 (v3).toNatClampNeg 11) ≤ (65535 : Int32) := hX.at1 12 ((v3).toNatClampNeg) 11
          exact FU.step hF (by grind)
        have p8 : (0 : Int32) ≤ (v3 + (1 : Int32)) ∧ (v3 + (1 : Int32)) ≤ (40 : Int32) := by
          have c9 : (0 : Int32) ≤ (X.1 0 0 11) ∧ (X.1 0 0 11) ≤ (40 : Int32) := hX.at1 0 0 11
          have c10 : (0 : Int32) ≤ (X.1 12 (v3).toNatClampNeg 11) ∧ (X.1 12 (v3).toNatClampNeg 11) ≤ (65535 : Int32) := hX.at1 12 ((v3).toNatClampNeg) 11
          exact ⟨by grind, by grind⟩
        exact ih (v3 + (1 : Int32)) (v4 + (1 : Int32)) k1 p5 p8 hk
      · have p11 : FU (v3 + (1 : Int32)) 40 _ := by
          have c12 : (0 : Int32) ≤ (X.1 0 0 11) ∧ (X.1 0 0 11) ≤ (40 : Int32) := hX.at1 0 0 11
          have c13 : (0 : Int32) ≤ (X.1 12 (v3).toNatClampNeg 11) ∧ (X.1 12 (v3).toNatClampNeg 11) ≤ (65535 : Int32) := hX.at1 12 ((v3).toNatClampNeg) 11
          exact FU.step hF (by grind)
        have p14 : (0 : Int32) ≤ (v3 + (1 : Int32)) ∧ (v3 + (1 : Int32)) ≤ (40 : Int32) := by
          have c15 : (0 : Int32) ≤ (X.1 0 0 11) ∧ (X.1 0 0 11) ≤ (40 : Int32) := hX.at1 0 0 11
          have c16 : (0 : Int32) ≤ (X.1 12 (v3).toNatClampNeg 11) ∧ (X.1 12 (v3).toNatClampNeg 11) ≤ (65535 : Int32) := hX.at1 12 ((v3).toNatClampNeg) 11
          exact ⟨by grind, by grind⟩
        exact ih (v3 + (1 : Int32)) v4 k1 p11 p14 hk
theorem s_X6_areChallengesSound {A : Nat → Nat → Nat → Prop} {B : SS} (X : SS) (hX : IV A B X) : ok (f_X6_areChallengesSound X) (fun r => (0 : Int32) ≤ r ∧ r ≤ (1 : Int32)) := by
  unfold f_X6_areChallengesSound
  have p1 : FU (0 : Int32) 40 1000 := by
    exact FU.start (by grind) (by decide)
  refine s_X6_areChallengesSound_L4 X hX 1000 (0 : Int32) (0 : Int32) _ p1 ⟨by decide, by decide⟩ (fun v2 => ?_)
  have p2 : FU (0 : Int32) 8 1000 := by
    exact FU.start (by grind) (by decide)
  refine s_X6_areChallengesSound_L37 X hX 1000 (0 : Int32) _ p2 ⟨by decide, by decide⟩ (fun _ => ?_)
  refine ok_ite (fun q3 => ?_) (fun q3 => ?_)
  · have p4 : (0 : Int32) ≤ (1 : Int32) ∧ (1 : Int32) ≤ (1 : Int32) := by
      exact ⟨by grind, by grind⟩
    exact ok_some p4
  · have p5 : (0 : Int32) ≤ (0 : Int32) ∧ (0 : Int32) ≤ (1 : Int32) := by
      exact ⟨by grind, by grind⟩
    exact ok_some p5
theorem s_X6_isSound {A : Nat → Nat → Nat → Prop} {B : SS} (X : SS) (hX : IV A B X) (a1 : A 16 1 4) (a2 : A 16 1 5) (a3 : A 16 1 6) (a4 : A 16 1 7) (a5 : A 16 1 8) (a6 : ∀ p, A 17 1 p) (a7 : ∀ p, A 18 1 p) (a8 : ∀ p, A 19 1 p) (a9 : ∀ p, A 20 1 p) (a10 : ∀ p, A 25 0 p) : ok (f_X6_isSound X) (fun r => IV A B r.1 ∧ (0 : Int32) ≤ r.2 ∧ r.2 ≤ (1 : Int32)) := by
  unfold f_X6_isSound
  refine ok_b0 (s_X6_bodyCount X hX) (fun v1 w1 => ?_)
  refine ok_ite (fun q2 => ?_) (fun q2 => ?_)
  · have p3 : (0 : Int32) ≤ (0 : Int32) ∧ (0 : Int32) ≤ (1 : Int32) := by
      exact ⟨by grind, by grind⟩
    exact ok_some ⟨hX, p3⟩
  · refine ok_b1 (s_X6_areBodiesSound X hX (a1) (a2) (a3) (a4) (a5) (fun p => a6 p) (fun p => a7 p) (fun p => a8 p) (fun p => a9 p)) (fun X5 v4 w4 => ?_)
    have hX5 : IV A B X5 := w4.1
    have w5 : (0 : Int32) ≤ v4 ∧ v4 ≤ (1 : Int32) := w4.2
    refine ok_ite (fun q6 => ?_) (fun q6 => ?_)
    · have p7 : (0 : Int32) ≤ (0 : Int32) ∧ (0 : Int32) ≤ (1 : Int32) := by
        exact ⟨by grind, by grind⟩
      exact ok_some ⟨hX5, p7⟩
    · refine ok_b1 (s_X6_areBeltsSound X5 hX5 (fun p => a10 p)) (fun X9 v8 w8 => ?_)
      have hX9 : IV A B X9 := w8.1
      have w9 : (0 : Int32) ≤ v8 ∧ v8 ≤ (1 : Int32) := w8.2
      refine ok_ite (fun q10 => ?_) (fun q10 => ?_)
      · have p11 : (0 : Int32) ≤ (0 : Int32) ∧ (0 : Int32) ≤ (1 : Int32) := by
          exact ⟨by grind, by grind⟩
        exact ok_some ⟨hX9, p11⟩
      · refine ok_b0 (s_X6_areChallengesSound X9 hX9) (fun v12 w12 => ?_)
        have w13 : (0 : Int32) ≤ v12 ∧ v12 ≤ (1 : Int32) := w12
        refine ok_ite (fun q14 => ?_) (fun q14 => ?_)
        · have p15 : (0 : Int32) ≤ (0 : Int32) ∧ (0 : Int32) ≤ (1 : Int32) := by
            exact ⟨by grind, by grind⟩
          exact ok_some ⟨hX9, p15⟩
        · have p16 : (0 : Int32) ≤ (1 : Int32) ∧ (1 : Int32) ≤ (1 : Int32) := by
            exact ⟨by grind, by grind⟩
          exact ok_some ⟨hX9, p16⟩
theorem s_X7_thrown {A : Nat → Nat → Nat → Prop} {B : SS} (M : SS) (hM : IV A B M) : ok (f_X7_thrown M) (fun r => (0 : Int32) ≤ r ∧ r ≤ (3 : Int32)) := by
  unfold f_X7_thrown
  have p1 : (0 : Int32) ≤ (M.1 26 0 9) ∧ (M.1 26 0 9) ≤ (3 : Int32) := by
    have c2 : (0 : Int32) ≤ (M.1 26 0 9) ∧ (M.1 26 0 9) ≤ (3 : Int32) := hM.at1 26 0 9
    exact ⟨by grind, by grind⟩
  exact ok_some p1
theorem s_X7_in (p0 : Int32) (p1 : Int32) (ip1 : ((-999) : Int32) ≤ p1 ∧ p1 ≤ (1 : Int32)) (p2 : Int32) (ip2 : ((-1) : Int32) ≤ p2 ∧ p2 ≤ (999 : Int32)) : ok (f_X7_in p0 p1 p2) (fun r => (0 : Int32) ≤ r ∧ r ≤ (1 : Int32) ∧ ((r = 0 ∧ (p0 < p1 ∨ p2 < p0)) ∨ (r = 1 ∧ p1 ≤ p0 ∧ p0 ≤ p2))) := by
  unfold f_X7_in
  refine ok_ite (fun q1 => ?_) (fun q1 => ?_)
  · have p2 : (0 : Int32) ≤ (0 : Int32) ∧ (0 : Int32) ≤ (1 : Int32) ∧ (((0 : Int32) = 0 ∧ (p0 < p1 ∨ p2 < p0)) ∨ ((0 : Int32) = 1 ∧ p1 ≤ p0 ∧ p0 ≤ p2)) := by
      grind
    exact ok_some p2
  · refine ok_ite (fun q3 => ?_) (fun q3 => ?_)
    · have p4 : (0 : Int32) ≤ (0 : Int32) ∧ (0 : Int32) ≤ (1 : Int32) ∧ (((0 : Int32) = 0 ∧ (p0 < p1 ∨ p2 < p0)) ∨ ((0 : Int32) = 1 ∧ p1 ≤ p0 ∧ p0 ≤ p2)) := by
        grind
      exact ok_some p4
    · have p5 : (0 : Int32) ≤ (1 : Int32) ∧ (1 : Int32) ≤ (1 : Int32) ∧ (((1 : Int32) = 0 ∧ (p0 < p1 ∨ p2 < p0)) ∨ ((1 : Int32) = 1 ∧ p1 ≤ p0 ∧ p0 ≤ p2)) := by
        grind
      exact ok_some p5
theorem s_X7_fails {A : Nat → Nat → Nat → Prop} {B : SS} (M : SS) (hM : IV A B M) (p0 : Int32) (ip0 : (1 : Int32) ≤ p0 ∧ p0 ≤ (3 : Int32)) (a1 : A 26 0 9) : ok (f_X7_fails M p0) (fun r => IV A B r.1 ∧ (0 : Int32) ≤ r.2 ∧ r.2 ≤ (0 : Int32)) := by
  unfold f_X7_fails
  refine ok_lq (fun M1 e1 => ?_)
  have p2 : (0 : Int32) ≤ p0 ∧ p0 ≤ (3 : Int32) := by
    exact ⟨by grind, by grind⟩
  have hM1 : IV A B M1 := by rw [e1]; exact hM.u1 rfl (a1) p2
  have p3 : (0 : Int32) ≤ (0 : Int32) ∧ (0 : Int32) ≤ (0 : Int32) := by
    exact ⟨by grind, by grind⟩
  exact ok_some ⟨hM1, p3⟩
theorem s_X7_tells {A : Nat → Nat → Nat → Prop} {B : SS} (M : SS) (hM : IV A B M) (p0 : Int32) (a1 : A 26 0 9) : ok (f_X7_tells M p0) (fun r => IV A B r.1 ∧ True) := by
  unfold f_X7_tells
  refine ok_lq (fun M1 e1 => ?_)
  have hM1 : IV A B M1 := by rw [e1]; exact hM.u1 rfl (a1) ⟨by decide, by decide⟩
  exact ok_some ⟨hM1, trivial⟩
theorem s_X7_isOneOf (p0 : Int32) (p1 : Int32) (ip1 : (42 : Int32) ≤ p1 ∧ p1 ≤ (112 : Int32)) (p2 : Int32) (ip2 : (37 : Int32) ≤ p2 ∧ p2 ≤ (111 : Int32)) (p3 : Int32) (ip3 : (42 : Int32) ≤ p3 ∧ p3 ≤ (100 : Int32)) (p4 : Int32) (ip4 : (37 : Int32) ≤ p4 ∧ p4 ≤ (115 : Int32)) : ok (f_X7_isOneOf p0 p1 p2 p3 p4) (fun r => (0 : Int32) ≤ r ∧ r ≤ (1 : Int32) ∧ ((r = 1 ∧ (p0 = p1 ∨ p0 = p2 ∨ p0 = p3 ∨ p0 = p4)) ∨ (r = 0 ∧ ¬ p0 = p1 ∧ ¬ p0 = p2 ∧ ¬ p0 = p3 ∧ ¬ p0 = p4))) := by
  unfold f_X7_isOneOf
  refine ok_ite (fun q1 => ?_) (fun q1 => ?_)
  · have p2 : (0 : Int32) ≤ (1 : Int32) ∧ (1 : Int32) ≤ (1 : Int32) ∧ (((1 : Int32) = 1 ∧ (p0 = p1 ∨ p0 = p2 ∨ p0 = p3 ∨ p0 = p4)) ∨ ((1 : Int32) = 0 ∧ ¬ p0 = p1 ∧ ¬ p0 = p2 ∧ ¬ p0 = p3 ∧ ¬ p0 = p4)) := by
      grind
    exact ok_some p2
  · refine ok_ite (fun q3 => ?_) (fun q3 => ?_)
    · have p4 : (0 : Int32) ≤ (1 : Int32) ∧ (1 : Int32) ≤ (1 : Int32) ∧ (((1 : Int32) = 1 ∧ (p0 = p1 ∨ p0 = p2 ∨ p0 = p3 ∨ p0 = p4)) ∨ ((1 : Int32) = 0 ∧ ¬ p0 = p1 ∧ ¬ p0 = p2 ∧ ¬ p0 = p3 ∧ ¬ p0 = p4)) := by
        grind
      exact ok_some p4
    · refine ok_ite (fun q5 => ?_) (fun q5 => ?_)
      · have p6 : (0 : Int32) ≤ (1 : Int32) ∧ (1 : Int32) ≤ (1 : Int32) ∧ (((1 : Int32) = 1 ∧ (p0 = p1 ∨ p0 = p2 ∨ p0 = p3 ∨ p0 = p4)) ∨ ((1 : Int32) = 0 ∧ ¬ p0 = p1 ∧ ¬ p0 = p2 ∧ ¬ p0 = p3 ∧ ¬ p0 = p4)) := by
          grind
        exact ok_some p6
      · refine ok_ite (fun q7 => ?_) (fun q7 => ?_)
        · have p8 : (0 : Int32) ≤ (1 : Int32) ∧ (1 : Int32) ≤ (1 : Int32) ∧ (((1 : Int32) = 1 ∧ (p0 = p1 ∨ p0 = p2 ∨ p0 = p3 ∨ p0 = p4)) ∨ ((1 : Int32) = 0 ∧ ¬ p0 = p1 ∧ ¬ p0 = p2 ∧ ¬ p0 = p3 ∧ ¬ p0 = p4)) := by
            grind
          exact ok_some p8
        · have p9 : (0 : Int32) ≤ (0 : Int32) ∧ (0 : Int32) ≤ (1 : Int32) ∧ (((0 : Int32) = 1 ∧ (p0 = p1 ∨ p0 = p2 ∨ p0 = p3 ∨ p0 = p4)) ∨ ((0 : Int32) = 0 ∧ ¬ p0 = p1 ∧ ¬ p0 = p2 ∧ ¬ p0 = p3 ∧ ¬ p0 = p4)) := by
            grind
          exact ok_some p9
theorem s_X7_isLetter (p0 : Int32) : ok (f_X7_isLetter p0) (fun r => (0 : Int32) ≤ r ∧ r ≤ (1 : Int32)) := by
  unfold f_X7_isLetter
  refine ok_b0 (s_X7_isOneOf p0 (110 : Int32) ⟨by decide, by decide⟩ (105 : Int32) ⟨by decide, by decide⟩ (43 : Int32) ⟨by decide, by decide⟩ (45 : Int32) ⟨by decide, by decide⟩) (fun v1 w1 => ?_)
  have w2 : (0 : Int32) ≤ v1 ∧ v1 ≤ (1 : Int32) ∧ ((v1 = 1 ∧ (p0 = (110 : Int32) ∨ p0 = (105 : Int32) ∨ p0 = (43 : Int32) ∨ p0 = (45 : Int32))) ∨ (v1 = 0 ∧ ¬ p0 = (110 : Int32) ∧ ¬ p0 = (105 : Int32) ∧ ¬ p0 = (43 : Int32) ∧ ¬ p0 = (45 : Int32))) := w1
  refine ok_ite (fun q3 => ?_) (fun q3 => ?_)
  · refine ok_b0 (s_X7_isOneOf p0 (42 : Int32) ⟨by decide, by decide⟩ (37 : Int32) ⟨by decide, by decide⟩ (100 : Int32) ⟨by decide, by decide⟩ (115 : Int32) ⟨by decide, by decide⟩) (fun v4 w4 => ?_)
    have w5 : (0 : Int32) ≤ v4 ∧ v4 ≤ (1 : Int32) ∧ ((v4 = 1 ∧ (p0 = (42 : Int32) ∨ p0 = (37 : Int32) ∨ p0 = (100 : Int32) ∨ p0 = (115 : Int32))) ∨ (v4 = 0 ∧ ¬ p0 = (42 : Int32) ∧ ¬ p0 = (37 : Int32) ∧ ¬ p0 = (100 : Int32) ∧ ¬ p0 = (115 : Int32))) := w4
    refine ok_ite (fun q6 => ?_) (fun q6 => ?_)
    · refine ok_b0 (s_X7_isOneOf p0 (112 : Int32) ⟨by decide, by decide⟩ (111 : Int32) ⟨by decide, by decide⟩ (91 : Int32) ⟨by decide, by decide⟩ (93 : Int32) ⟨by decide, by decide⟩) (fun v7 w7 => ?_)
      have w8 : (0 : Int32) ≤ v7 ∧ v7 ≤ (1 : Int32) ∧ ((v7 = 1 ∧ (p0 = (112 : Int32) ∨ p0 = (111 : Int32) ∨ p0 = (91 : Int32) ∨ p0 = (93 : Int32))) ∨ (v7 = 0 ∧ ¬ p0 = (112 : Int32) ∧ ¬ p0 = (111 : Int32) ∧ ¬ p0 = (91 : Int32) ∧ ¬ p0 = (93 : Int32))) := w7
      refine ok_ite (fun q9 => ?_) (fun q9 => ?_)
      · have p10 : (0 : Int32) ≤ (0 : Int32) ∧ (0 : Int32) ≤ (1 : Int32) := by
          exact ⟨by grind, by grind⟩
        exact ok_some p10
      · have p11 : (0 : Int32) ≤ (1 : Int32) ∧ (1 : Int32) ≤ (1 : Int32) := by
          exact ⟨by grind, by grind⟩
        exact ok_some p11
    · have p12 : (0 : Int32) ≤ (1 : Int32) ∧ (1 : Int32) ≤ (1 : Int32) := by
        exact ⟨by grind, by grind⟩
      exact ok_some p12
  · have p13 : (0 : Int32) ≤ (1 : Int32) ∧ (1 : Int32) ≤ (1 : Int32) := by
      exact ⟨by grind, by grind⟩
    exact ok_some p13
theorem s_X7_step {A : Nat → Nat → Nat → Prop} {B : SS} (M : SS) (hM : IV A B M) (p0 : Int32) (p1 : Int32) (a1 : A 26 0 0) (a2 : A 26 0 9) (a3 : ∀ p, A 27 0 p) (a4 : ∀ p, A 28 0 p) (a5 : A 29 0 40) : ok (f_X7_step M p0 p1) (fun r => IV A B r.1 ∧ True) := by
  unfold f_X7_step
  refine ok_b0 (s_X7_isLetter p0) (fun v1 w => ?_)
  refine ok_ite (fun q => ?_) (fun q => ?_)
  · exact ok_b1 (s_X7_fails M hM _ (by decide) a2) (fun M22 v w => ok_some ⟨w.1, trivial⟩)
  · have hp : isL p0 := by
      have w1 := w.2
      rcases w1 with h | h
      · exact h.2
      · exact absurd h.1 q
    refine ok_ite (fun q2 => ?_) (fun q2 => ?_)
    · refine ok_b0 (s_X7_in p1 _ (by decide) _ (by decide)) (fun v25 w => ?_)
      refine ok_ite (fun q => ?_) (fun q => ?_)
      · exact ok_b1 (s_X7_fails M hM _ (by decide) a2) (fun M22 v w => ok_some ⟨w.1, trivial⟩)
      · exact s_step_J32 hM hp a1 a2 a3 a4 a5
    · exact s_step_J32 hM hp a1 a2 a3 a4 a5
theorem s_X7_wipe {A : Nat → Nat → Nat → Prop} {B : SS} (M : SS) (hM : IV A B M) (a1 : A 26 0 0) (a2 : A 26 0 9) (a3 : A 29 0 40) : ok (f_X7_wipe M) (fun r => IV A B r.1 ∧ True) := by
  unfold f_X7_wipe
  refine ok_lq (fun v1 e1 => ok_lq (fun M2 e2 => ok_lq (fun M3 e3 => ?_)))
  have h2 : IV0 A B M2 := by rw [e2]; exact hM.1.u1 a1 ⟨by decide, by decide⟩
  have h3 : IV0 A B M3 := by rw [e3]; exact h2.u1 a3 ⟨by decide, by decide⟩
  have hL : LV M3 := by
    refine ⟨?_, fun r a hr ha hs => ?_⟩
    · rw [e3, show ((40 : Int32)).toNatClampNeg = 40 from rfl, up_s, up_k (by decide), e2, up_s]
    · have e27 : ∀ p, M3.1 27 0 p = M.1 27 0 p := fun p => by rw [e3, up_k (by decide), e2, up_k (by decide)]
      rw [e27]
      by_cases hr4 : r = 40
      · subst hr4
        rw [e3, show ((40 : Int32)).toNatClampNeg = 40 from rfl, up_s] at hs
        exact absurd hs (nI_pos (by omega))
      · rw [e3, show ((40 : Int32)).toNatClampNeg = 40 from rfl, up_p hr4, e2, up_k (by decide)] at hs
        exact hM.2.2 r a hr ha hs
  exact ok_b1 (s_X7_tells M3 ⟨h3, hL⟩ _ a2) (fun M5 v4 w => ok_some ⟨w.1, trivial⟩)
theorem s_X7_number {A : Nat → Nat → Nat → Prop} {B : SS} (M : SS) (hM : IV A B M) (p0 : Int32) (p1 : Int32) (a1 : A 26 0 1) (a2 : A 26 0 2) (a3 : A 26 0 9) (a4 : ∀ p, A 30 0 p) (a5 : ∀ p, A 31 0 p) : ok (f_X7_number M p0 p1) (fun r => IV A B r.1 ∧ True) := by
  unfold f_X7_number
  refine ok_b0 (s_X7_in p0 ((-999) : Int32) ⟨by decide, by decide⟩ (999 : Int32) ⟨by decide, by decide⟩) (fun v1 w1 => ?_)
  have w2 : (0 : Int32) ≤ v1 ∧ v1 ≤ (1 : Int32) ∧ ((v1 = 0 ∧ (p0 < ((-999) : Int32) ∨ (999 : Int32) < p0)) ∨ (v1 = 1 ∧ ((-999) : Int32) ≤ p0 ∧ p0 ≤ (999 : Int32))) := w1
  refine ok_ite (fun q3 => ?_) (fun q3 => ?_)
  · refine ok_b1 (s_X7_fails M hM (1 : Int32) ⟨by decide, by decide⟩ (a3)) (fun M28 v27 w4 => ?_)
    have hM28 : IV A B M28 := w4.1
    have w5 : (0 : Int32) ≤ v27 ∧ v27 ≤ (0 : Int32) := w4.2
    exact ok_some ⟨hM28, trivial⟩
  · refine ok_ite (fun q6 => ?_) (fun q6 => ?_)
    · refine ok_ite (fun q7 => ?_) (fun q7 => ?_)
      · refine ok_b1 (s_X7_fails M hM (2 : Int32) ⟨by decide, by decide⟩ (a3)) (fun M21 v20 w8 => ?_)
        have hM21 : IV A B M21 := w8.1
        have w9 : (0 : Int32) ≤ v20 ∧ v20 ≤ (0 : Int32) := w8.2
        exact ok_some ⟨hM21, trivial⟩
      · unfold f_X7_number_J49
        refine ok_ite (fun q10 => ?_) (fun q10 => ?_)
        · refine ok_gd ?_ (fun g11 => ?_)
          · have c12 : (0 : Int32) ≤ (M.1 26 0 1) ∧ (M.1 26 0 1) ≤ (4 : Int32) := hM.at1 26 0 1
            exact vp_of (by decide) (by grind) (show (M.1 26 0 1) < (4 : Int32) by grind)
          have g11 := vp_to (by decide) g11
          have g11 : (0 : Int32) ≤ (M.1 26 0 1) ∧ (M.1 26 0 1) < (4 : Int32) := g11
          refine ok_lq (fun M7 e13 => ?_)
          have hM7 : IV A B M7 := by rw [e13]; exact hM.u1f rfl (a4 (((M.1 26 0 1)).toNatClampNeg)) rfl
          refine ok_lq (fun M8 e14 => ?_)
          have p15 : (0 : Int32) ≤ ((M7.1 26 0 1) + (1 : Int32)) ∧ ((M7.1 26 0 1) + (1 : Int32)) ≤ (4 : Int32) := by
            have c16 : (0 : Int32) ≤ (M7.1 26 0 1) ∧ (M7.1 26 0 1) ≤ (4 : Int32) := hM7.at1 26 0 1
            have c17 : (M7.1 26 0 1) = (M.1 26 0 1) := by rw [e13]; exact up_k (by decide)
            have c18 : (0 : Int32) ≤ (M.1 26 0 1) ∧ (M.1 26 0 1) ≤ (4 : Int32) := hM.at1 26 0 1
            exact ⟨by grind, by grind⟩
          have hM8 : IV A B M8 := by rw [e14]; exact hM7.u1 rfl (a1) p15
          refine ok_b1 (s_X7_tells M8 hM8 (M8.1 26 0 1) (a3)) (fun M10 v9 w19 => ?_)
          have hM10 : IV A B M10 := w19.1
          exact ok_some ⟨hM10, trivial⟩
        · refine ok_gd ?_ (fun g20 => ?_)
          · have c21 : (0 : Int32) ≤ (M.1 26 0 2) ∧ (M.1 26 0 2) ≤ (6 : Int32) := hM.at1 26 0 2
            exact vp_of (by decide) (by grind) (show (M.1 26 0 2) < (6 : Int32) by grind)
          have g20 := vp_to (by decide) g20
          have g20 : (0 : Int32) ≤ (M.1 26 0 2) ∧ (M.1 26 0 2) < (6 : Int32) := g20
          refine ok_lq (fun M13 e22 => ?_)
          have hM13 : IV A B M13 := by rw [e22]; exact hM.u1f rfl (a5 (((M.1 26 0 2)).toNatClampNeg)) rfl
          refine ok_lq (fun M14 e23 => ?_)
          have p24 : (0 : Int32) ≤ ((M13.1 26 0 2) + (1 : Int32)) ∧ ((M13.1 26 0 2) + (1 : Int32)) ≤ (6 : Int32) := by
            have c25 : (0 : Int32) ≤ (M13.1 26 0 2) ∧ (M13.1 26 0 2) ≤ (6 : Int32) := hM13.at1 26 0 2
            have c26 : (M13.1 26 0 2) = (M.1 26 0 2) := by rw [e22]; exact up_k (by decide)
            have c27 : (0 : Int32) ≤ (M.1 26 0 2) ∧ (M.1 26 0 2) ≤ (6 : Int32) := hM.at1 26 0 2
            exact ⟨by grind, by grind⟩
          have hM14 : IV A B M14 := by rw [e23]; exact hM13.u1 rfl (a2) p24
          refine ok_b1 (s_X7_tells M14 hM14 (M14.1 26 0 2) (a3)) (fun M16 v15 w28 => ?_)
          have hM16 : IV A B M16 := w28.1
          exact ok_some ⟨hM16, trivial⟩
    · refine ok_ite (fun q29 => ?_) (fun q29 => ?_)
      · refine ok_b1 (s_X7_fails M hM (2 : Int32) ⟨by decide, by decide⟩ (a3)) (fun M25 v24 w30 => ?_)
        have hM25 : IV A B M25 := w30.1
        have w31 : (0 : Int32) ≤ v24 ∧ v24 ≤ (0 : Int32) := w30.2
        exact ok_some ⟨hM25, trivial⟩
      · unfold f_X7_number_J49
        refine ok_ite (fun q32 => ?_) (fun q32 => ?_)
        · refine ok_gd ?_ (fun g33 => ?_)
          · have c34 : (0 : Int32) ≤ (M.1 26 0 1) ∧ (M.1 26 0 1) ≤ (4 : Int32) := hM.at1 26 0 1
            exact vp_of (by decide) (by grind) (show (M.1 26 0 1) < (4 : Int32) by grind)
          have g33 := vp_to (by decide) g33
          have g33 : (0 : Int32) ≤ (M.1 26 0 1) ∧ (M.1 26 0 1) < (4 : Int32) := g33
          refine ok_lq (fun M7 e35 => ?_)
          have hM7 : IV A B M7 := by rw [e35]; exact hM.u1f rfl (a4 (((M.1 26 0 1)).toNatClampNeg)) rfl
          refine ok_lq (fun M8 e36 => ?_)
          have p37 : (0 : Int32) ≤ ((M7.1 26 0 1) + (1 : Int32)) ∧ ((M7.1 26 0 1) + (1 : Int32)) ≤ (4 : Int32) := by
            have c38 : (0 : Int32) ≤ (M7.1 26 0 1) ∧ (M7.1 26 0 1) ≤ (4 : Int32) := hM7.at1 26 0 1
            have c39 : (M7.1 26 0 1) = (M.1 26 0 1) := by rw [e35]; exact up_k (by decide)
            have c40 : (0 : Int32) ≤ (M.1 26 0 1) ∧ (M.1 26 0 1) ≤ (4 : Int32) := hM.at1 26 0 1
            exact ⟨by grind, by grind⟩
          have hM8 : IV A B M8 := by rw [e36]; exact hM7.u1 rfl (a1) p37
          refine ok_b1 (s_X7_tells M8 hM8 (M8.1 26 0 1) (a3)) (fun M10 v9 w41 => ?_)
          have hM10 : IV A B M10 := w41.1
          exact ok_some ⟨hM10, trivial⟩
        · refine ok_gd ?_ (fun g42 => ?_)
          · have c43 : (0 : Int32) ≤ (M.1 26 0 2) ∧ (M.1 26 0 2) ≤ (6 : Int32) := hM.at1 26 0 2
            exact vp_of (by decide) (by grind) (show (M.1 26 0 2) < (6 : Int32) by grind)
          have g42 := vp_to (by decide) g42
          have g42 : (0 : Int32) ≤ (M.1 26 0 2) ∧ (M.1 26 0 2) < (6 : Int32) := g42
          refine ok_lq (fun M13 e44 => ?_)
          have hM13 : IV A B M13 := by rw [e44]; exact hM.u1f rfl (a5 (((M.1 26 0 2)).toNatClampNeg)) rfl
          refine ok_lq (fun M14 e45 => ?_)
          have p46 : (0 : Int32) ≤ ((M13.1 26 0 2) + (1 : Int32)) ∧ ((M13.1 26 0 2) + (1 : Int32)) ≤ (6 : Int32) := by
            have c47 : (0 : Int32) ≤ (M13.1 26 0 2) ∧ (M13.1 26 0 2) ≤ (6 : Int32) := hM13.at1 26 0 2
            have c48 : (M13.1 26 0 2) = (M.1 26 0 2) := by rw [e44]; exact up_k (by decide)
            have c49 : (0 : Int32) ≤ (M.1 26 0 2) ∧ (M.1 26 0 2) ≤ (6 : Int32) := hM.at1 26 0 2
            exact ⟨by grind, by grind⟩
          have hM14 : IV A B M14 := by rw [e45]; exact hM13.u1 rfl (a2) p46
          refine ok_b1 (s_X7_tells M14 hM14 (M14.1 26 0 2) (a3)) (fun M16 v15 w50 => ?_)
          have hM16 : IV A B M16 := w50.1
          exact ok_some ⟨hM16, trivial⟩
theorem s_X7_clears {A : Nat → Nat → Nat → Prop} {B : SS} (M : SS) (hM : IV A B M) (a1 : A 26 0 1) (a2 : A 26 0 2) : ok (f_X7_clears M) (fun r => IV A B r.1 ∧ (0 : Int32) ≤ r.2 ∧ r.2 ≤ (10 : Int32)) := by
  unfold f_X7_clears
  refine ok_lq (fun v1 e1 => ?_)
  refine ok_lq (fun M2 e2 => ?_)
  have hM2 : IV A B M2 := by rw [e2]; exact hM.u1 rfl (a1) ⟨by decide, by decide⟩
  refine ok_lq (fun M3 e3 => ?_)
  have hM3 : IV A B M3 := by rw [e3]; exact hM2.u1 rfl (a2) ⟨by decide, by decide⟩
  have p4 : (0 : Int32) ≤ v1 ∧ v1 ≤ (10 : Int32) := by
    have c5 : (0 : Int32) ≤ (M.1 26 0 1) ∧ (M.1 26 0 1) ≤ (4 : Int32) := hM.at1 26 0 1
    have c6 : (0 : Int32) ≤ (M.1 26 0 2) ∧ (M.1 26 0 2) ≤ (6 : Int32) := hM.at1 26 0 2
    exact ⟨by grind, by grind⟩
  exact ok_some ⟨hM3, p4⟩
theorem s_X7_clear {A : Nat → Nat → Nat → Prop} {B : SS} (M : SS) (hM : IV A B M) (a1 : A 26 0 1) (a2 : A 26 0 2) (a3 : A 26 0 9) : ok (f_X7_clear M) (fun r => IV A B r.1 ∧ True) := by
  unfold f_X7_clear
  refine ok_b1 (s_X7_clears M hM (a1) (a2)) (fun M2 v1 w1 => ?_)
  have hM2 : IV A B M2 := w1.1
  have w2 : (0 : Int32) ≤ v1 ∧ v1 ≤ (10 : Int32) := w1.2
  refine ok_b1 (s_X7_tells M2 hM2 v1 (a3)) (fun M5 v4 w3 => ?_)
  have hM5 : IV A B M5 := w3.1
  exact ok_some ⟨hM5, trivial⟩
theorem s_X7_partner_L6 {A : Nat → Nat → Nat → Prop} {B : SS} (p0 : Int32) (ip0 : (0 : Int32) ≤ p0 ∧ p0 ≤ (40 : Int32)) (M : SS) (hM : IV A B M) (p2 : Int32) (ip2 : ((-1) : Int32) ≤ p2 ∧ p2 ≤ (1 : Int32)) : ∀ (n : Nat), ∀ (v2 : Int32) (v3 : Int32) (k1 : (Unit → Option (Int32))), ((p2 = 1 ∧ FU v2 24 (n)) ∨ (p2 = (-1) ∧ FD v2 (n))) → (((-1) : Int32) ≤ v2 ∧ v2 ≤ (24 : Int32)) → (∀ (k_0 : Unit), ok (k1 k_0) (fun r => ((-1) : Int32) ≤ r ∧ r ≤ (23 : Int32))) → ok (f_X7_partner_L6 p0 M p2 n v2 v3 k1) (fun r => ((-1) : Int32) ≤ r ∧ r ≤ (23 : Int32)) := by
  intro n
  induction n with
  | zero =>
    intro v2 v3 k1 hF iv2 hk
    exact (hF.elim (fun h => FU.stop h.2 (show v2 ≤ (24 : Int32) by grind)) (fun h => FD.stop h.2 (by grind))).elim
  | succ n ih =>
    intro v2 v3 k1 hF iv2 hk
    rw [f_X7_partner_L6]
    refine ok_gd ?_ (fun g1 => ?_)
    · exact vp_of (by decide) (by grind) (show p0 < (41 : Int32) by grind)
    have g1 := vp_to (by decide) g1
    have g1 : (0 : Int32) ≤ p0 ∧ p0 < (41 : Int32) := g1
    have p2 : ((-1) : Int32) ≤ ((M.1 29 0 (p0).toNatClampNeg) - (1 : Int32)) ∧ ((M.1 29 0 (p0).toNatClampNeg) - (1 : Int32)) ≤ (999 : Int32) := by
      have c3 : (0 : Int32) ≤ (M.1 29 0 (p0).toNatClampNeg) ∧ (M.1 29 0 (p0).toNatClampNeg) ≤ (24 : Int32) := hM.at1 29 0 ((p0).toNatClampNeg)
      exact ⟨by grind, by grind⟩
    refine ok_b0 (s_X7_in v2 (0 : Int32) ⟨by decide, by decide⟩ ((M.1 29 0 (p0).toNatClampNeg) - (1 : Int32)) p2) (fun v5 w4 => ?_)
    have w5 : (0 : Int32) ≤ v5 ∧ v5 ≤ (1 : Int32) ∧ ((v5 = 0 ∧ (v2 < (0 : Int32) ∨ ((M.1 29 0 (p0).toNatClampNeg) - (1 : Int32)) < v2)) ∨ (v5 = 1 ∧ (0 : Int32) ≤ v2 ∧ v2 ≤ ((M.1 29 0 (p0).toNatClampNeg) - (1 : Int32)))) := w4
    refine ok_ite (fun q6 => ?_) (fun q6 => ?_)
    · exact hk ()
    · refine ok_gd ?_ (fun g7 => ?_)
      · have c8 : (0 : Int32) ≤ (M.1 29 0 (p0).toNatClampNeg) ∧ (M.1 29 0 (p0).toNatClampNeg) ≤ (24 : Int32) := hM.at1 29 0 ((p0).toNatClampNeg)
        exact vp_of (by decide) (by grind) (show (((24 : Int32) * p0) + v2) < (984 : Int32) by grind)
      have g7 := vp_to (by decide) g7
      have g7 : (0 : Int32) ≤ (((24 : Int32) * p0) + v2) ∧ (((24 : Int32) * p0) + v2) < (984 : Int32) := g7
      refine ok_ite (fun q9 => ?_) (fun q9 => ?_)
      · unfold f_X7_partner_J68
        refine ok_lq (fun v11 e10 => ?_)
        refine ok_ite (fun q11 => ?_) (fun q11 => ?_)
        · have p12 : ((-1) : Int32) ≤ v2 ∧ v2 ≤ (23 : Int32) := by
            have c13 : (0 : Int32) ≤ (M.1 27 0 ((((24 : Int32) * p0) + v2)).toNatClampNeg) ∧ (M.1 27 0 ((((24 : Int32) * p0) + v2)).toNatClampNeg) ≤ (65535 : Int32) := hM.at1 27 0 (((((24 : Int32) * p0) + v2)).toNatClampNeg)
            have c14 : (0 : Int32) ≤ (M.1 29 0 (p0).toNatClampNeg) ∧ (M.1 29 0 (p0).toNatClampNeg) ≤ (24 : Int32) := hM.at1 29 0 ((p0).toNatClampNeg)
            exact ⟨by grind, by grind⟩
          exact ok_some p12
        · refine ok_lq (fun v13 e15 => ?_)
          have p16 : (p2 = 1 ∧ FU v13 24 (_)) ∨ (p2 = (-1) ∧ FD v13 (_)) := by
            rcases hF with ⟨h, h2⟩ | ⟨h, h2⟩ <;> [exact Or.inl ⟨h, FU.stepe h2 (by grind) (by grind)⟩; exact Or.inr ⟨h, FD.stepe h2 (by grind) (by grind)⟩]
          have p17 : ((-1) : Int32) ≤ v13 ∧ v13 ≤ (24 : Int32) := by
            exact ⟨by grind, by grind⟩
          exact ih v13 v11 k1 p16 p17 hk
      · refine ok_gd ?_ (fun g18 => ?_)
        · have c19 : (0 : Int32) ≤ (M.1 29 0 (p0).toNatClampNeg) ∧ (M.1 29 0 (p0).toNatClampNeg) ≤ (24 : Int32) := hM.at1 29 0 ((p0).toNatClampNeg)
          have c20 : (0 : Int32) ≤ (M.1 27 0 ((((24 : Int32) * p0) + v2)).toNatClampNeg) ∧ (M.1 27 0 ((((24 : Int32) * p0) + v2)).toNatClampNeg) ≤ (65535 : Int32) := hM.at1 27 0 (((((24 : Int32) * p0) + v2)).toNatClampNeg)
          exact vp_of (by decide) (by grind) (show (((24 : Int32) * p0) + v2) < (984 : Int32) by grind)
        have g18 := vp_to (by decide) g18
        have g18 : (0 : Int32) ≤ (((24 : Int32) * p0) + v2) ∧ (((24 : Int32) * p0) + v2) < (984 : Int32) := g18
        refine ok_ite (fun q21 => ?_) (fun q21 => ?_)
        · unfold f_X7_partner_J68
          refine ok_lq (fun v11 e22 => ?_)
          refine ok_ite (fun q23 => ?_) (fun q23 => ?_)
          · have p24 : ((-1) : Int32) ≤ v2 ∧ v2 ≤ (23 : Int32) := by
              have c25 : (0 : Int32) ≤ (M.1 27 0 ((((24 : Int32) * p0) + v2)).toNatClampNeg) ∧ (M.1 27 0 ((((24 : Int32) * p0) + v2)).toNatClampNeg) ≤ (65535 : Int32) := hM.at1 27 0 (((((24 : Int32) * p0) + v2)).toNatClampNeg)
              have c26 : (0 : Int32) ≤ (M.1 29 0 (p0).toNatClampNeg) ∧ (M.1 29 0 (p0).toNatClampNeg) ≤ (24 : Int32) := hM.at1 29 0 ((p0).toNatClampNeg)
              exact ⟨by grind, by grind⟩
            exact ok_some p24
          · refine ok_lq (fun v13 e27 => ?_)
            have p28 : (p2 = 1 ∧ FU v13 24 (_)) ∨ (p2 = (-1) ∧ FD v13 (_)) := by
              rcases hF with ⟨h, h2⟩ | ⟨h, h2⟩ <;> [exact Or.inl ⟨h, FU.stepe h2 (by grind) (by grind)⟩; exact Or.inr ⟨h, FD.stepe h2 (by grind) (by grind)⟩]
            have p29 : ((-1) : Int32) ≤ v13 ∧ v13 ≤ (24 : Int32) := by
              exact ⟨by grind, by grind⟩
            exact ih v13 v11 k1 p28 p29 hk
        · unfold f_X7_partner_J68
          refine ok_lq (fun v11 e30 => ?_)
          refine ok_ite (fun q31 => ?_) (fun q31 => ?_)
          · have p32 : ((-1) : Int32) ≤ v2 ∧ v2 ≤ (23 : Int32) := by
              have c33 : (0 : Int32) ≤ (M.1 27 0 ((((24 : Int32) * p0) + v2)).toNatClampNeg) ∧ (M.1 27 0 ((((24 : Int32) * p0) + v2)).toNatClampNeg) ≤ (65535 : Int32) := hM.at1 27 0 (((((24 : Int32) * p0) + v2)).toNatClampNeg)
              have c34 : (0 : Int32) ≤ (M.1 29 0 (p0).toNatClampNeg) ∧ (M.1 29 0 (p0).toNatClampNeg) ≤ (24 : Int32) := hM.at1 29 0 ((p0).toNatClampNeg)
              exact ⟨by grind, by grind⟩
            exact ok_some p32
          · refine ok_lq (fun v13 e35 => ?_)
            have p36 : (p2 = 1 ∧ FU v13 24 (_)) ∨ (p2 = (-1) ∧ FD v13 (_)) := by
              rcases hF with ⟨h, h2⟩ | ⟨h, h2⟩ <;> [exact Or.inl ⟨h, FU.stepe h2 (by grind) (by grind)⟩; exact Or.inr ⟨h, FD.stepe h2 (by grind) (by grind)⟩]
            have p37 : ((-1) : Int32) ≤ v13 ∧ v13 ≤ (24 : Int32) := by
              exact ⟨by grind, by grind⟩
            exact ih v13 v11 k1 p36 p37 hk
theorem s_X7_partner {A : Nat → Nat → Nat → Prop} {B : SS} (M : SS) (hM : IV A B M) (p0 : Int32) (ip0 : (0 : Int32) ≤ p0 ∧ p0 ≤ (40 : Int32)) (p1 : Int32) (ip1 : (0 : Int32) ≤ p1 ∧ p1 ≤ (23 : Int32)) (p2 : Int32) (ip2 : ((-1) : Int32) ≤ p2 ∧ p2 ≤ (1 : Int32)) (x0 : p2 = 1 ∨ p2 = (-1)) : ok (f_X7_partner M p0 p1 p2) (fun r => ((-1) : Int32) ≤ r ∧ r ≤ (23 : Int32)) := by
  unfold f_X7_partner
  have p1 : (0 : Int32) ≤ p0 ∧ p0 ≤ (40 : Int32) := by
    exact ⟨by grind, by grind⟩
  have p2 : ((-1) : Int32) ≤ p2 ∧ p2 ≤ (1 : Int32) := by
    exact ⟨by grind, by grind⟩
  have p3 : (p2 = 1 ∧ FU p1 24 (1000)) ∨ (p2 = (-1) ∧ FD p1 (1000)) := by
    rcases x0 with h | h <;> [exact Or.inl ⟨h, FU.start (by grind) (by decide)⟩; exact Or.inr ⟨h, FD.start (show p1 ≤ (900 : Int32) by grind)⟩]
  have p4 : ((-1) : Int32) ≤ p1 ∧ p1 ≤ (24 : Int32) := by
    exact ⟨by grind, by grind⟩
  refine s_X7_partner_L6 p0 p1 M hM p2 p2 1000 p1 (0 : Int32) _ p3 p4 (fun _ => ?_)
  have p5 : ((-1) : Int32) ≤ ((-1) : Int32) ∧ ((-1) : Int32) ≤ (23 : Int32) := by
    exact ⟨by grind, by grind⟩
  exact ok_some p5
theorem s_X7_isWhole_J62 {n : Nat} (rc : Int32 → Int32 → Int32 → (Int32 → Int32 → Option (Int32)) → Option (Int32)) (hrc : ∀ (v4 : Int32) (v5 : Int32) (v6 : Int32) (k1 : (Int32 → Int32 → Option (Int32))), (FU v4 24 n) → ((0 : Int32) ≤ v4 ∧ v4 ≤ (24 : Int32)) → ((0 : Int32) ≤ v5 ∧ v5 ≤ (1 : Int32)) → (∀ (k_0 : Int32) (k_1 : Int32), ((0 : Int32) ≤ k_0 ∧ k_0 ≤ (1 : Int32)) → ok (k1 k_0 k_1) (fun r => (0 : Int32) ≤ r ∧ r ≤ (1 : Int32))) → ok (rc v4 v5 v6 k1) (fun r => (0 : Int32) ≤ r ∧ r ≤ (1 : Int32))) (k1 : Int32 → Int32 → Option (Int32)) (hk : ∀ (k_0 : Int32) (k_1 : Int32), ((0 : Int32) ≤ k_0 ∧ k_0 ≤ (1 : Int32)) → ok (k1 k_0 k_1) (fun r => (0 : Int32) ≤ r ∧ r ≤ (1 : Int32))) (v6 : Int32) (v5 : Int32) (iv5 : (0 : Int32) ≤ v5 ∧ v5 ≤ (1 : Int32)) (v4 : Int32) (iv4 : (0 : Int32) ≤ v4 ∧ v4 ≤ (23 : Int32)) (v12 : Int32) (iv12 : ((-1) : Int32) ≤ v12 ∧ v12 ≤ (1 : Int32)) (hF : FU v4 24 (n + 1)) : ok (f_X7_isWhole_J62 rc k1 v6 v5 v4 v12) (fun r => (0 : Int32) ≤ r ∧ r ≤ (1 : Int32)) := by
  unfold f_X7_isWhole_J62
  refine ok_lq (fun v14 e1 => ?_)
  refine ok_ite (fun q2 => ?_) (fun q2 => ?_)
  · have p3 : FU (v4 + (1 : Int32)) 24 _ := by
      exact FU.step hF (by grind)
    have p4 : (0 : Int32) ≤ (v4 + (1 : Int32)) ∧ (v4 + (1 : Int32)) ≤ (24 : Int32) := by
      exact ⟨by grind, by grind⟩
    exact hrc (v4 + (1 : Int32)) (0 : Int32) v14 k1 p3 p4 ⟨by decide, by decide⟩ hk
  · refine ok_ite (fun q5 => ?_) (fun q5 => ?_)
    · have p6 : FU (v4 + (1 : Int32)) 24 _ := by
        exact FU.step hF (by grind)
      have p7 : (0 : Int32) ≤ (v4 + (1 : Int32)) ∧ (v4 + (1 : Int32)) ≤ (24 : Int32) := by
        exact ⟨by grind, by grind⟩
      exact hrc (v4 + (1 : Int32)) (0 : Int32) v14 k1 p6 p7 ⟨by decide, by decide⟩ hk
    · have p8 : FU (v4 + (1 : Int32)) 24 _ := by
        exact FU.step hF (by grind)
      have p9 : (0 : Int32) ≤ (v4 + (1 : Int32)) ∧ (v4 + (1 : Int32)) ≤ (24 : Int32) := by
        exact ⟨by grind, by grind⟩
      exact hrc (v4 + (1 : Int32)) (1 : Int32) v14 k1 p8 p9 ⟨by decide, by decide⟩ hk
theorem s_X7_isWhole_L7 {A : Nat → Nat → Nat → Prop} {B : SS} (p0 : Int32) (ip0 : (40 : Int32) ≤ p0 ∧ p0 ≤ (40 : Int32)) (M : SS) (hM : IV A B M) : ∀ (n : Nat), ∀ (v4 : Int32) (v5 : Int32) (v6 : Int32) (k1 : (Int32 → Int32 → Option (Int32))), (FU v4 24 n) → ((0 : Int32) ≤ v4 ∧ v4 ≤ (24 : Int32)) → ((0 : Int32) ≤ v5 ∧ v5 ≤ (1 : Int32)) → (∀ (k_0 : Int32) (k_1 : Int32), ((0 : Int32) ≤ k_0 ∧ k_0 ≤ (1 : Int32)) → ok (k1 k_0 k_1) (fun r => (0 : Int32) ≤ r ∧ r ≤ (1 : Int32))) → ok (f_X7_isWhole_L7 p0 M n v4 v5 v6 k1) (fun r => (0 : Int32) ≤ r ∧ r ≤ (1 : Int32)) := by
  intro n
  induction n with
  | zero =>
    intro v4 v5 v6 k1 hF iv4 iv5 hk
    exact (FU.stop hF (show v4 ≤ (24 : Int32) by grind)).elim
  | succ n ih =>
    intro v4 v5 v6 k1 hF iv4 iv5 hk
    rw [f_X7_isWhole_L7]
    refine ok_gd ?_ (fun g1 => ?_)
    · exact vp_of (by decide) (by grind) (show p0 < (41 : Int32) by grind)
    have g1 := vp_to (by decide) g1
    have g1 : (0 : Int32) ≤ p0 ∧ p0 < (41 : Int32) := g1
    refine ok_ite (fun q2 => ?_) (fun q2 => ?_)
    · have p3 : (0 : Int32) ≤ v5 ∧ v5 ≤ (1 : Int32) := by
        exact ⟨by grind, by grind⟩
      exact hk v5 v6 p3
    · refine ok_gd ?_ (fun g4 => ?_)
      · have c5 : (0 : Int32) ≤ (M.1 29 0 (p0).toNatClampNeg) ∧ (M.1 29 0 (p0).toNatClampNeg) ≤ (24 : Int32) := hM.at1 29 0 ((p0).toNatClampNeg)
        exact vp_of (by decide) (by grind) (show (((24 : Int32) * p0) + v4) < (984 : Int32) by grind)
      have g4 := vp_to (by decide) g4
      have g4 : (0 : Int32) ≤ (((24 : Int32) * p0) + v4) ∧ (((24 : Int32) * p0) + v4) < (984 : Int32) := g4
      refine ok_ite (fun q6 => ?_) (fun q6 => ?_)
      · have p7 : (0 : Int32) ≤ v5 ∧ v5 ≤ (1 : Int32) := by
          exact ⟨by grind, by grind⟩
        have p8 : (0 : Int32) ≤ v4 ∧ v4 ≤ (23 : Int32) := by
          have c9 : (0 : Int32) ≤ (M.1 29 0 (p0).toNatClampNeg) ∧ (M.1 29 0 (p0).toNatClampNeg) ≤ (24 : Int32) := hM.at1 29 0 ((p0).toNatClampNeg)
          have c10 : (0 : Int32) ≤ (M.1 27 0 ((((24 : Int32) * p0) + v4)).toNatClampNeg) ∧ (M.1 27 0 ((((24 : Int32) * p0) + v4)).toNatClampNeg) ≤ (65535 : Int32) := hM.at1 27 0 (((((24 : Int32) * p0) + v4)).toNatClampNeg)
          exact ⟨by grind, by grind⟩
        exact s_X7_isWhole_J62 (n := _) (f_X7_isWhole_L7 p0 M n) ih k1 hk v6 v5 p7 v4 p8 (1 : Int32) ⟨by decide, by decide⟩ hF
      · refine ok_gd ?_ (fun g11 => ?_)
        · have c12 : (0 : Int32) ≤ (M.1 29 0 (p0).toNatClampNeg) ∧ (M.1 29 0 (p0).toNatClampNeg) ≤ (24 : Int32) := hM.at1 29 0 ((p0).toNatClampNeg)
          have c13 : (0 : Int32) ≤ (M.1 27 0 ((((24 : Int32) * p0) + v4)).toNatClampNeg) ∧ (M.1 27 0 ((((24 : Int32) * p0) + v4)).toNatClampNeg) ≤ (65535 : Int32) := hM.at1 27 0 (((((24 : Int32) * p0) + v4)).toNatClampNeg)
          exact vp_of (by decide) (by grind) (show (((24 : Int32) * p0) + v4) < (984 : Int32) by grind)
        have g11 := vp_to (by decide) g11
        have g11 : (0 : Int32) ≤ (((24 : Int32) * p0) + v4) ∧ (((24 : Int32) * p0) + v4) < (984 : Int32) := g11
        refine ok_ite (fun q14 => ?_) (fun q14 => ?_)
        · have p15 : (0 : Int32) ≤ v5 ∧ v5 ≤ (1 : Int32) := by
            exact ⟨by grind, by grind⟩
          have p16 : (0 : Int32) ≤ v4 ∧ v4 ≤ (23 : Int32) := by
            have c17 : (0 : Int32) ≤ (M.1 29 0 (p0).toNatClampNeg) ∧ (M.1 29 0 (p0).toNatClampNeg) ≤ (24 : Int32) := hM.at1 29 0 ((p0).toNatClampNeg)
            have c18 : (0 : Int32) ≤ (M.1 27 0 ((((24 : Int32) * p0) + v4)).toNatClampNeg) ∧ (M.1 27 0 ((((24 : Int32) * p0) + v4)).toNatClampNeg) ≤ (65535 : Int32) := hM.at1 27 0 (((((24 : Int32) * p0) + v4)).toNatClampNeg)
            exact ⟨by grind, by grind⟩
          exact s_X7_isWhole_J62 (n := _) (f_X7_isWhole_L7 p0 M n) ih k1 hk v6 v5 p15 v4 p16 ((-1) : Int32) ⟨by decide, by decide⟩ hF
        · have p19 : (0 : Int32) ≤ v5 ∧ v5 ≤ (1 : Int32) := by
            exact ⟨by grind, by grind⟩
          have p20 : (0 : Int32) ≤ v4 ∧ v4 ≤ (23 : Int32) := by
            have c21 : (0 : Int32) ≤ (M.1 29 0 (p0).toNatClampNeg) ∧ (M.1 29 0 (p0).toNatClampNeg) ≤ (24 : Int32) := hM.at1 29 0 ((p0).toNatClampNeg)
            have c22 : (0 : Int32) ≤ (M.1 27 0 ((((24 : Int32) * p0) + v4)).toNatClampNeg) ∧ (M.1 27 0 ((((24 : Int32) * p0) + v4)).toNatClampNeg) ≤ (65535 : Int32) := hM.at1 27 0 (((((24 : Int32) * p0) + v4)).toNatClampNeg)
            exact ⟨by grind, by grind⟩
          exact s_X7_isWhole_J62 (n := _) (f_X7_isWhole_L7 p0 M n) ih k1 hk v6 v5 p19 v4 p20 (0 : Int32) ⟨by decide, by decide⟩ hF
theorem s_X7_isWhole {A : Nat → Nat → Nat → Prop} {B : SS} (M : SS) (hM : IV A B M) (p0 : Int32) (ip0 : (40 : Int32) ≤ p0 ∧ p0 ≤ (40 : Int32)) : ok (f_X7_isWhole M p0) (fun r => (0 : Int32) ≤ r ∧ r ≤ (1 : Int32)) := by
  unfold f_X7_isWhole
  have p1 : (40 : Int32) ≤ p0 ∧ p0 ≤ (40 : Int32) := by
    exact ⟨by grind, by grind⟩
  have p2 : FU (0 : Int32) 24 1000 := by
    exact FU.start (by grind) (by decide)
  refine s_X7_isWhole_L7 p0 p1 M hM 1000 (0 : Int32) (1 : Int32) (0 : Int32) _ p2 ⟨by decide, by decide⟩ ⟨by decide, by decide⟩ (fun v2 v3 wv2 => ?_)
  have wv2 : (0 : Int32) ≤ v2 ∧ v2 ≤ (1 : Int32) := wv2
  refine ok_ite (fun q3 => ?_) (fun q3 => ?_)
  · have p4 : (0 : Int32) ≤ (0 : Int32) ∧ (0 : Int32) ≤ (1 : Int32) := by
      exact ⟨by grind, by grind⟩
    exact ok_some p4
  · refine ok_ite (fun q5 => ?_) (fun q5 => ?_)
    · have p6 : (0 : Int32) ≤ (1 : Int32) ∧ (1 : Int32) ≤ (1 : Int32) := by
        exact ⟨by grind, by grind⟩
      exact ok_some p6
    · have p7 : (0 : Int32) ≤ (0 : Int32) ∧ (0 : Int32) ≤ (1 : Int32) := by
        exact ⟨by grind, by grind⟩
      exact ok_some p7
theorem s_X7_needs (p0 : Int32) (ip0 : (0 : Int32) ≤ p0 ∧ p0 ≤ (65535 : Int32)) : ok (f_X7_needs p0) (fun r => (0 : Int32) ≤ r ∧ r ≤ (2 : Int32) ∧ (((p0 = 43 ∨ p0 = 45 ∨ p0 = 42 ∨ p0 = 37 ∨ p0 = 115) → r = 2) ∧ (¬ p0 = 110 → ¬ p0 = 105 → (1 : Int32) ≤ r))) := by
  unfold f_X7_needs
  refine ok_b0 (s_X7_isOneOf p0 (43 : Int32) ⟨by decide, by decide⟩ (45 : Int32) ⟨by decide, by decide⟩ (42 : Int32) ⟨by decide, by decide⟩ (37 : Int32) ⟨by decide, by decide⟩) (fun v1 w1 => ?_)
  have w2 : (0 : Int32) ≤ v1 ∧ v1 ≤ (1 : Int32) ∧ ((v1 = 1 ∧ (p0 = (43 : Int32) ∨ p0 = (45 : Int32) ∨ p0 = (42 : Int32) ∨ p0 = (37 : Int32))) ∨ (v1 = 0 ∧ ¬ p0 = (43 : Int32) ∧ ¬ p0 = (45 : Int32) ∧ ¬ p0 = (42 : Int32) ∧ ¬ p0 = (37 : Int32))) := w1
  refine ok_ite (fun q3 => ?_) (fun q3 => ?_)
  · refine ok_ite (fun q4 => ?_) (fun q4 => ?_)
    · have p5 : (0 : Int32) ≤ (2 : Int32) ∧ (2 : Int32) ≤ (2 : Int32) ∧ (((p0 = 43 ∨ p0 = 45 ∨ p0 = 42 ∨ p0 = 37 ∨ p0 = 115) → (2 : Int32) = 2) ∧ (¬ p0 = 110 → ¬ p0 = 105 → (1 : Int32) ≤ (2 : Int32))) := by
        grind
      exact ok_some p5
    · refine ok_ite (fun q6 => ?_) (fun q6 => ?_)
      · have p7 : (0 : Int32) ≤ (0 : Int32) ∧ (0 : Int32) ≤ (2 : Int32) ∧ (((p0 = 43 ∨ p0 = 45 ∨ p0 = 42 ∨ p0 = 37 ∨ p0 = 115) → (0 : Int32) = 2) ∧ (¬ p0 = 110 → ¬ p0 = 105 → (1 : Int32) ≤ (0 : Int32))) := by
          grind
        exact ok_some p7
      · refine ok_ite (fun q8 => ?_) (fun q8 => ?_)
        · have p9 : (0 : Int32) ≤ (0 : Int32) ∧ (0 : Int32) ≤ (2 : Int32) ∧ (((p0 = 43 ∨ p0 = 45 ∨ p0 = 42 ∨ p0 = 37 ∨ p0 = 115) → (0 : Int32) = 2) ∧ (¬ p0 = 110 → ¬ p0 = 105 → (1 : Int32) ≤ (0 : Int32))) := by
            grind
          exact ok_some p9
        · have p10 : (0 : Int32) ≤ (1 : Int32) ∧ (1 : Int32) ≤ (2 : Int32) ∧ (((p0 = 43 ∨ p0 = 45 ∨ p0 = 42 ∨ p0 = 37 ∨ p0 = 115) → (1 : Int32) = 2) ∧ (¬ p0 = 110 → ¬ p0 = 105 → (1 : Int32) ≤ (1 : Int32))) := by
            grind
          exact ok_some p10
  · have p11 : (0 : Int32) ≤ (2 : Int32) ∧ (2 : Int32) ≤ (2 : Int32) ∧ (((p0 = 43 ∨ p0 = 45 ∨ p0 = 42 ∨ p0 = 37 ∨ p0 = 115) → (2 : Int32) = 2) ∧ (¬ p0 = 110 → ¬ p0 = 105 → (1 : Int32) ≤ (2 : Int32))) := by
      grind
    exact ok_some p11
theorem s_X7_changes {A : Nat → Nat → Nat → Prop} {B : SS} (M : SS) (hM : IV A B M) (p0 : Int32) (ip0 : (0 : Int32) ≤ p0 ∧ p0 ≤ (65535 : Int32)) (x0 : (1 : Int32) ≤ (M.1 26 0 38)) (x1 : p0 = 112 ∨ p0 = 111 ∨ (2 : Int32) ≤ (M.1 26 0 38)) (x2 : (p0 = 112 ∨ p0 = 111 ∨ p0 = 115 ∨ p0 = 43 ∨ p0 = 45 ∨ p0 = 42) ∨ ¬ (M.1 53 0 (((M.1 26 0 38) - (1 : Int32))).toNatClampNeg) = 0) (x3 : p0 = 111 → (M.1 26 0 39) < (6 : Int32)) (a1 : A 26 0 38) (a2 : A 26 0 39) (a3 : ∀ p, A 53 0 p) (a4 : ∀ p, A 54 0 p) : ok (f_X7_changes M p0) (fun r => IV A B r.1 ∧ True) := by
  unfold f_X7_changes
  refine ok_gd ?_ (fun g1 => ?_)
  · have c2 : (0 : Int32) ≤ (M.1 26 0 38) ∧ (M.1 26 0 38) ≤ (12 : Int32) := hM.at1 26 0 38
    exact vp_of (by decide) (by grind) (show ((M.1 26 0 38) - (1 : Int32)) < (12 : Int32) by grind)
  have g1 := vp_to (by decide) g1
  have g1 : (0 : Int32) ≤ ((M.1 26 0 38) - (1 : Int32)) ∧ ((M.1 26 0 38) - (1 : Int32)) < (12 : Int32) := g1
  refine ok_lq (fun v2 e3 => ?_)
  refine ok_ite (fun q4 => ?_) (fun q4 => ?_)
  · unfold f_X7_changes_J24
    refine ok_lq (fun M4 e5 => ?_)
    have p6 : (0 : Int32) ≤ ((M.1 26 0 38) - (1 : Int32)) ∧ ((M.1 26 0 38) - (1 : Int32)) ≤ (12 : Int32) := by
      have c7 : (0 : Int32) ≤ (M.1 26 0 38) ∧ (M.1 26 0 38) ≤ (12 : Int32) := hM.at1 26 0 38
      exact ⟨by grind, by grind⟩
    have hM4 : IV A B M4 := by rw [e5]; exact hM.u1 rfl (a1) p6
    refine ok_ite (fun q8 => ?_) (fun q8 => ?_)
    · refine ok_gd ?_ (fun g9 => ?_)
      · have c10 : (0 : Int32) ≤ (M4.1 26 0 39) ∧ (M4.1 26 0 39) ≤ (6 : Int32) := hM4.at1 26 0 39
        have c11 : (M4.1 26 0 39) = (M.1 26 0 39) := by rw [e5]; exact up_p (by decide)
        have c12 : (0 : Int32) ≤ (M.1 26 0 39) ∧ (M.1 26 0 39) ≤ (6 : Int32) := hM.at1 26 0 39
        exact vp_of (by decide) (by grind) (show (M4.1 26 0 39) < (6 : Int32) by grind)
      have g9 := vp_to (by decide) g9
      have g9 : (0 : Int32) ≤ (M4.1 26 0 39) ∧ (M4.1 26 0 39) < (6 : Int32) := g9
      refine ok_lq (fun M7 e13 => ?_)
      have hM7 : IV A B M7 := by rw [e13]; exact hM4.u1f rfl (a4 (((M4.1 26 0 39)).toNatClampNeg)) rfl
      refine ok_lq (fun M8 e14 => ?_)
      have p15 : (0 : Int32) ≤ ((M7.1 26 0 39) + (1 : Int32)) ∧ ((M7.1 26 0 39) + (1 : Int32)) ≤ (6 : Int32) := by
        have c16 : (0 : Int32) ≤ (M7.1 26 0 39) ∧ (M7.1 26 0 39) ≤ (6 : Int32) := hM7.at1 26 0 39
        have c17 : (M7.1 26 0 39) = (M4.1 26 0 39) := by rw [e13]; exact up_k (by decide)
        have c18 : (0 : Int32) ≤ (M4.1 26 0 39) ∧ (M4.1 26 0 39) ≤ (6 : Int32) := hM4.at1 26 0 39
        have c19 : (M4.1 26 0 39) = (M.1 26 0 39) := by rw [e5]; exact up_p (by decide)
        have c20 : (0 : Int32) ≤ (M.1 26 0 39) ∧ (M.1 26 0 39) ≤ (6 : Int32) := hM.at1 26 0 39
        exact ⟨by grind, by grind⟩
      have hM8 : IV A B M8 := by rw [e14]; exact hM7.u1 rfl (a2) p15
      exact ok_some ⟨hM8, trivial⟩
    · exact ok_some ⟨hM4, trivial⟩
  · refine ok_ite (fun q21 => ?_) (fun q21 => ?_)
    · unfold f_X7_changes_J24
      refine ok_lq (fun M4 e22 => ?_)
      have p23 : (0 : Int32) ≤ ((M.1 26 0 38) - (1 : Int32)) ∧ ((M.1 26 0 38) - (1 : Int32)) ≤ (12 : Int32) := by
        have c24 : (0 : Int32) ≤ (M.1 26 0 38) ∧ (M.1 26 0 38) ≤ (12 : Int32) := hM.at1 26 0 38
        exact ⟨by grind, by grind⟩
      have hM4 : IV A B M4 := by rw [e22]; exact hM.u1 rfl (a1) p23
      refine ok_ite (fun q25 => ?_) (fun q25 => ?_)
      · refine ok_gd ?_ (fun g26 => ?_)
        · have c27 : (0 : Int32) ≤ (M4.1 26 0 39) ∧ (M4.1 26 0 39) ≤ (6 : Int32) := hM4.at1 26 0 39
          have c28 : (M4.1 26 0 39) = (M.1 26 0 39) := by rw [e22]; exact up_p (by decide)
          have c29 : (0 : Int32) ≤ (M.1 26 0 39) ∧ (M.1 26 0 39) ≤ (6 : Int32) := hM.at1 26 0 39
          exact vp_of (by decide) (by grind) (show (M4.1 26 0 39) < (6 : Int32) by grind)
        have g26 := vp_to (by decide) g26
        have g26 : (0 : Int32) ≤ (M4.1 26 0 39) ∧ (M4.1 26 0 39) < (6 : Int32) := g26
        refine ok_lq (fun M7 e30 => ?_)
        have hM7 : IV A B M7 := by rw [e30]; exact hM4.u1f rfl (a4 (((M4.1 26 0 39)).toNatClampNeg)) rfl
        refine ok_lq (fun M8 e31 => ?_)
        have p32 : (0 : Int32) ≤ ((M7.1 26 0 39) + (1 : Int32)) ∧ ((M7.1 26 0 39) + (1 : Int32)) ≤ (6 : Int32) := by
          have c33 : (0 : Int32) ≤ (M7.1 26 0 39) ∧ (M7.1 26 0 39) ≤ (6 : Int32) := hM7.at1 26 0 39
          have c34 : (M7.1 26 0 39) = (M4.1 26 0 39) := by rw [e30]; exact up_k (by decide)
          have c35 : (0 : Int32) ≤ (M4.1 26 0 39) ∧ (M4.1 26 0 39) ≤ (6 : Int32) := hM4.at1 26 0 39
          have c36 : (M4.1 26 0 39) = (M.1 26 0 39) := by rw [e22]; exact up_p (by decide)
          have c37 : (0 : Int32) ≤ (M.1 26 0 39) ∧ (M.1 26 0 39) ≤ (6 : Int32) := hM.at1 26 0 39
          exact ⟨by grind, by grind⟩
        have hM8 : IV A B M8 := by rw [e31]; exact hM7.u1 rfl (a2) p32
        exact ok_some ⟨hM8, trivial⟩
      · exact ok_some ⟨hM4, trivial⟩
    · refine ok_gd ?_ (fun g38 => ?_)
      · have c39 : (0 : Int32) ≤ (M.1 26 0 38) ∧ (M.1 26 0 38) ≤ (12 : Int32) := hM.at1 26 0 38
        exact vp_of (by decide) (by grind) (show ((M.1 26 0 38) - (2 : Int32)) < (12 : Int32) by grind)
      have g38 := vp_to (by decide) g38
      have g38 : (0 : Int32) ≤ ((M.1 26 0 38) - (2 : Int32)) ∧ ((M.1 26 0 38) - (2 : Int32)) < (12 : Int32) := g38
      refine ok_lq (fun v12 e40 => ?_)
      refine ok_ite (fun q41 => ?_) (fun q41 => ?_)
      · refine ok_gd ?_ (fun g42 => ?_)
        · have c43 : (0 : Int32) ≤ (M.1 26 0 38) ∧ (M.1 26 0 38) ≤ (12 : Int32) := hM.at1 26 0 38
          exact vp_of (by decide) (by grind) (show ((M.1 26 0 38) - (1 : Int32)) < (12 : Int32) by grind)
        have g42 := vp_to (by decide) g42
        have g42 : (0 : Int32) ≤ ((M.1 26 0 38) - (1 : Int32)) ∧ ((M.1 26 0 38) - (1 : Int32)) < (12 : Int32) := g42
        refine ok_lq (fun M28 e44 => ?_)
        have hM28 : IV A B M28 := by rw [e44]; exact hM.u1f rfl (a3 ((((M.1 26 0 38) - (1 : Int32))).toNatClampNeg)) rfl
        refine ok_gd ?_ (fun g45 => ?_)
        · have c46 : (0 : Int32) ≤ (M28.1 26 0 38) ∧ (M28.1 26 0 38) ≤ (12 : Int32) := hM28.at1 26 0 38
          have c47 : (M28.1 26 0 38) = (M.1 26 0 38) := by rw [e44]; exact up_k (by decide)
          have c48 : (0 : Int32) ≤ (M.1 26 0 38) ∧ (M.1 26 0 38) ≤ (12 : Int32) := hM.at1 26 0 38
          exact vp_of (by decide) (by grind) (show ((M28.1 26 0 38) - (2 : Int32)) < (12 : Int32) by grind)
        have g45 := vp_to (by decide) g45
        have g45 : (0 : Int32) ≤ ((M28.1 26 0 38) - (2 : Int32)) ∧ ((M28.1 26 0 38) - (2 : Int32)) < (12 : Int32) := g45
        refine ok_lq (fun M30 e49 => ?_)
        have hM30 : IV A B M30 := by rw [e49]; exact hM28.u1f rfl (a3 ((((M28.1 26 0 38) - (2 : Int32))).toNatClampNeg)) rfl
        exact ok_some ⟨hM30, trivial⟩
      · refine ok_lq (fun M14 e50 => ?_)
        have p51 : (0 : Int32) ≤ ((M.1 26 0 38) - (1 : Int32)) ∧ ((M.1 26 0 38) - (1 : Int32)) ≤ (12 : Int32) := by
          have c52 : (0 : Int32) ≤ (M.1 26 0 38) ∧ (M.1 26 0 38) ≤ (12 : Int32) := hM.at1 26 0 38
          exact ⟨by grind, by grind⟩
        have hM14 : IV A B M14 := by rw [e50]; exact hM.u1 rfl (a1) p51
        refine ok_ite (fun q53 => ?_) (fun q53 => ?_)
        · refine ok_gd ?_ (fun g54 => ?_)
          · have c55 : (0 : Int32) ≤ (M14.1 26 0 38) ∧ (M14.1 26 0 38) ≤ (12 : Int32) := hM14.at1 26 0 38
            have c56 : (M14.1 26 0 38) = ((M.1 26 0 38) - (1 : Int32)) := by rw [e50]; exact up_s
            have c57 : (0 : Int32) ≤ (M.1 26 0 38) ∧ (M.1 26 0 38) ≤ (12 : Int32) := hM.at1 26 0 38
            exact vp_of (by decide) (by grind) (show ((M14.1 26 0 38) - (1 : Int32)) < (12 : Int32) by grind)
          have g54 := vp_to (by decide) g54
          have g54 : (0 : Int32) ≤ ((M14.1 26 0 38) - (1 : Int32)) ∧ ((M14.1 26 0 38) - (1 : Int32)) < (12 : Int32) := g54
          refine ok_lq (fun M26 e58 => ?_)
          have hM26 : IV A B M26 := by rw [e58]; exact hM14.u1f rfl (a3 ((((M14.1 26 0 38) - (1 : Int32))).toNatClampNeg)) rfl
          exact ok_some ⟨hM26, trivial⟩
        · refine ok_ite (fun q59 => ?_) (fun q59 => ?_)
          · refine ok_gd ?_ (fun g60 => ?_)
            · have c61 : (0 : Int32) ≤ (M14.1 26 0 38) ∧ (M14.1 26 0 38) ≤ (12 : Int32) := hM14.at1 26 0 38
              have c62 : (M14.1 26 0 38) = ((M.1 26 0 38) - (1 : Int32)) := by rw [e50]; exact up_s
              have c63 : (0 : Int32) ≤ (M.1 26 0 38) ∧ (M.1 26 0 38) ≤ (12 : Int32) := hM.at1 26 0 38
              exact vp_of (by decide) (by grind) (show ((M14.1 26 0 38) - (1 : Int32)) < (12 : Int32) by grind)
            have g60 := vp_to (by decide) g60
            have g60 : (0 : Int32) ≤ ((M14.1 26 0 38) - (1 : Int32)) ∧ ((M14.1 26 0 38) - (1 : Int32)) < (12 : Int32) := g60
            refine ok_lq (fun M24 e64 => ?_)
            have hM24 : IV A B M24 := by rw [e64]; exact hM14.u1f rfl (a3 ((((M14.1 26 0 38) - (1 : Int32))).toNatClampNeg)) rfl
            exact ok_some ⟨hM24, trivial⟩
          · refine ok_ite (fun q65 => ?_) (fun q65 => ?_)
            · refine ok_gd ?_ (fun g66 => ?_)
              · have c67 : (0 : Int32) ≤ (M14.1 26 0 38) ∧ (M14.1 26 0 38) ≤ (12 : Int32) := hM14.at1 26 0 38
                have c68 : (M14.1 26 0 38) = ((M.1 26 0 38) - (1 : Int32)) := by rw [e50]; exact up_s
                have c69 : (0 : Int32) ≤ (M.1 26 0 38) ∧ (M.1 26 0 38) ≤ (12 : Int32) := hM.at1 26 0 38
                exact vp_of (by decide) (by grind) (show ((M14.1 26 0 38) - (1 : Int32)) < (12 : Int32) by grind)
              have g66 := vp_to (by decide) g66
              have g66 : (0 : Int32) ≤ ((M14.1 26 0 38) - (1 : Int32)) ∧ ((M14.1 26 0 38) - (1 : Int32)) < (12 : Int32) := g66
              refine ok_lq (fun M22 e70 => ?_)
              have hM22 : IV A B M22 := by rw [e70]; exact hM14.u1f rfl (a3 ((((M14.1 26 0 38) - (1 : Int32))).toNatClampNeg)) rfl
              exact ok_some ⟨hM22, trivial⟩
            · refine ok_gd ?_ (fun g71 => ?_)
              · have c72 : (0 : Int32) ≤ (M.1 26 0 38) ∧ (M.1 26 0 38) ≤ (12 : Int32) := hM.at1 26 0 38
                grind
              refine ok_gd ?_ (fun g73 => ?_)
              · have c74 : (0 : Int32) ≤ (M14.1 26 0 38) ∧ (M14.1 26 0 38) ≤ (12 : Int32) := hM14.at1 26 0 38
                have c75 : (M14.1 26 0 38) = ((M.1 26 0 38) - (1 : Int32)) := by rw [e50]; exact up_s
                have c76 : (0 : Int32) ≤ (M.1 26 0 38) ∧ (M.1 26 0 38) ≤ (12 : Int32) := hM.at1 26 0 38
                exact vp_of (by decide) (by grind) (show ((M14.1 26 0 38) - (1 : Int32)) < (12 : Int32) by grind)
              have g73 := vp_to (by decide) g73
              have g73 : (0 : Int32) ≤ ((M14.1 26 0 38) - (1 : Int32)) ∧ ((M14.1 26 0 38) - (1 : Int32)) < (12 : Int32) := g73
              refine ok_lq (fun M20 e77 => ?_)
              have hM20 : IV A B M20 := by rw [e77]; exact hM14.u1f rfl (a3 ((((M14.1 26 0 38) - (1 : Int32))).toNatClampNeg)) rfl
              exact ok_some ⟨hM20, trivial⟩
theorem s_X7_runs_L399 {A : Nat → Nat → Nat → Prop} {B : SS} (M5 : SS) (hM5 : IV A B M5) (p1 : Int32) (ip1 : (0 : Int32) ≤ p1 ∧ p1 ≤ (39 : Int32)) : ∀ (n : Nat), ∀ (v14 : Int32) (v15 : Int32) (k12 : (Int32 → Option (SS × Int32))), (FU v14 6 n) → ((0 : Int32) ≤ v14 ∧ v14 ≤ (6 : Int32)) → ((0 : Int32) ≤ v15 ∧ v15 ≤ (1 : Int32)) → (∀ (k_0 : Int32), ((0 : Int32) ≤ k_0 ∧ k_0 ≤ (1 : Int32)) → ok (k12 k_0) (fun r => IV A B r.1 ∧ (101 : Int32) ≤ r.2 ∧ r.2 ≤ (122 : Int32))) → ok (f_X7_runs_L399 M5 p1 n v14 v15 k12) (fun r => IV A B r.1 ∧ (101 : Int32) ≤ r.2 ∧ r.2 ≤ (122 : Int32)) := by
  intro n
  induction n with
  | zero =>
    intro v14 v15 k12 hF iv14 iv15 hk
    exact (FU.stop hF (show v14 ≤ (6 : Int32) by grind)).elim
  | succ n ih =>
    intro v14 v15 k12 hF iv14 iv15 hk
    rw [f_X7_runs_L399]
    refine ok_ite (fun q1 => ?_) (fun q1 => ?_)
    · have p2 : (0 : Int32) ≤ v15 ∧ v15 ≤ (1 : Int32) := by
        exact ⟨by grind, by grind⟩
      exact hk v15 p2
    · refine ok_ite (fun q3 => ?_) (fun q3 => ?_)
      · have p4 : (0 : Int32) ≤ v15 ∧ v15 ≤ (1 : Int32) := by
          exact ⟨by grind, by grind⟩
        exact hk v15 p4
      · refine ok_gd ?_ (fun g5 => ?_)
        · have c6 : (0 : Int32) ≤ (M5.1 26 0 39) ∧ (M5.1 26 0 39) ≤ (6 : Int32) := hM5.at1 26 0 39
          exact vp_of (by decide) (by grind) (show v14 < (6 : Int32) by grind)
        have g5 := vp_to (by decide) g5
        have g5 : (0 : Int32) ≤ v14 ∧ v14 < (6 : Int32) := g5
        refine ok_gd ?_ (fun g7 => ?_)
        · have c8 : (0 : Int32) ≤ (M5.1 26 0 39) ∧ (M5.1 26 0 39) ≤ (6 : Int32) := hM5.at1 26 0 39
          exact vp_of (by decide) (by grind) (show (((6 : Int32) * p1) + v14) < (240 : Int32) by grind)
        have g7 := vp_to (by decide) g7
        have g7 : (0 : Int32) ≤ (((6 : Int32) * p1) + v14) ∧ (((6 : Int32) * p1) + v14) < (240 : Int32) := g7
        refine ok_ite (fun q9 => ?_) (fun q9 => ?_)
        · have p10 : FU (v14 + (1 : Int32)) 6 _ := by
            have c11 : (0 : Int32) ≤ (M5.1 26 0 39) ∧ (M5.1 26 0 39) ≤ (6 : Int32) := hM5.at1 26 0 39
            exact FU.step hF (by grind)
          have p12 : (0 : Int32) ≤ (v14 + (1 : Int32)) ∧ (v14 + (1 : Int32)) ≤ (6 : Int32) := by
            have c13 : (0 : Int32) ≤ (M5.1 26 0 39) ∧ (M5.1 26 0 39) ≤ (6 : Int32) := hM5.at1 26 0 39
            exact ⟨by grind, by grind⟩
          exact ih (v14 + (1 : Int32)) (1 : Int32) k12 p10 p12 ⟨by decide, by decide⟩ hk
        · have p14 : FU (v14 + (1 : Int32)) 6 _ := by
            have c15 : (0 : Int32) ≤ (M5.1 26 0 39) ∧ (M5.1 26 0 39) ≤ (6 : Int32) := hM5.at1 26 0 39
            exact FU.step hF (by grind)
          have p16 : (0 : Int32) ≤ (v14 + (1 : Int32)) ∧ (v14 + (1 : Int32)) ≤ (6 : Int32) := by
            have c17 : (0 : Int32) ≤ (M5.1 26 0 39) ∧ (M5.1 26 0 39) ≤ (6 : Int32) := hM5.at1 26 0 39
            exact ⟨by grind, by grind⟩
          exact ih (v14 + (1 : Int32)) (0 : Int32) k12 p14 p16 ⟨by decide, by decide⟩ hk
theorem s_X7_runs_J181 {A : Nat → Nat → Nat → Prop} {B : SS} {n : Nat} (rc : Int32 → Int32 → SS → (SS → Option (SS × Int32)) → Option (SS × Int32)) (hrc : ∀ (v6 : Int32) (v7 : Int32) (M8 : SS) (k4 : (SS → Option (SS × Int32))), (FU ((M8.1 26 0 40)) 300 n) → ((0 : Int32) ≤ v6 ∧ v6 ≤ (24 : Int32)) → ((0 : Int32) ≤ v7 ∧ v7 ≤ (4 : Int32)) → (IV A B M8) → (v7 ≤ (M8.1 34 0 (p1).toNatClampNeg)) → (∀ (k_0 : SS), (IV A B k_0) → ok (k4 k_0) (fun r => IV A B r.1 ∧ (101 : Int32) ≤ r.2 ∧ r.2 ≤ (122 : Int32))) → ok (rc v6 v7 M8 k4) (fun r => IV A B r.1 ∧ (101 : Int32) ≤ r.2 ∧ r.2 ≤ (122 : Int32))) (k4 : SS → Option (SS × Int32)) (hk : ∀ (k_0 : SS), (IV A B k_0) → ok (k4 k_0) (fun r => IV A B r.1 ∧ (101 : Int32) ≤ r.2 ∧ r.2 ≤ (122 : Int32))) (M8 : SS) (hM8 : IV A B M8) (v27 : Int32) (iv27 : (0 : Int32) ≤ v27 ∧ v27 ≤ (1 : Int32)) (v26 : Int32) (iv26 : (0 : Int32) ≤ v26 ∧ v26 ≤ (65535 : Int32)) (p0 : Int32) (ip0 : (0 : Int32) ≤ p0 ∧ p0 ≤ (40 : Int32)) (v6 : Int32) (iv6 : (0 : Int32) ≤ v6 ∧ v6 ≤ (23 : Int32)) (v7 : Int32) (iv7 : (0 : Int32) ≤ v7 ∧ v7 ≤ (4 : Int32)) (p1 : Int32) (ip1 : (0 : Int32) ≤ p1 ∧ p1 ≤ (39 : Int32)) (x0 : isL v26) (x1 : (v27 = 0 ∧ ¬ v26 = 110 ∧ ¬ v26 = 105 ∧ ¬ v26 = 100) ∨ (v27 = 1 ∧ (v26 = 110 ∨ v26 = 105 ∨ v26 = 100))) (x2 : v7 ≤ (M8.1 34 0 (p1).toNatClampNeg)) (x3 : (M8.1 26 0 40) < (300 : Int32)) (x4 : (v26 = 43 ∨ v26 = 45 ∨ v26 = 42 ∨ v26 = 37 ∨ v26 = 115) → (2 : Int32) ≤ (M8.1 26 0 38)) (x5 : ¬ v26 = 110 → ¬ v26 = 105 → (1 : Int32) ≤ (M8.1 26 0 38)) (x6 : v26 = 105 → v7 < (M8.1 34 0 (p1).toNatClampNeg)) (x7 : v26 = 37 → ¬ (M8.1 53 0 (((M8.1 26 0 38) - (1 : Int32))).toNatClampNeg) = 0) (x8 : v27 = 1 → (M8.1 26 0 38) < (12 : Int32)) (x9 : v26 = 111 → (M8.1 26 0 39) < (6 : Int32)) (a1 : A 26 0 38) (a2 : A 26 0 39) (a3 : A 26 0 40) (a4 : ∀ p, A 53 0 p) (a5 : ∀ p, A 54 0 p) (hF : FU ((M8.1 26 0 40)) 300 (n + 1)) : ok (f_X7_runs_J181 rc k4 M8 v27 v26 p0 v6 v7 p1) (fun r => IV A B r.1 ∧ (101 : Int32) ≤ r.2 ∧ r.2 ≤ (122 : Int32)) := by
  unfold f_X7_runs_J181
  refine ok_lq (fun M37 e1 => ?_)
  have p2 : (0 : Int32) ≤ ((M8.1 26 0 40) + (1 : Int32)) ∧ ((M8.1 26 0 40) + (1 : Int32)) ≤ (300 : Int32) := by
    have c3 : (0 : Int32) ≤ (M8.1 26 0 40) ∧ (M8.1 26 0 40) ≤ (300 : Int32) := hM8.at1 26 0 40
    exact ⟨by grind, by grind⟩
  have hM37 : IV A B M37 := by rw [e1]; exact hM8.u1 rfl (a3) p2
  refine ok_ite (fun q4 => ?_) (fun q4 => ?_)
  · refine ok_ite (fun q5 => ?_) (fun q5 => ?_)
    · refine ok_gd ?_ (fun g6 => ?_)
      · have c7 : (0 : Int32) ≤ (M37.1 26 0 38) ∧ (M37.1 26 0 38) ≤ (12 : Int32) := hM37.at1 26 0 38
        have c8 : (M37.1 26 0 38) = (M8.1 26 0 38) := by rw [e1]; exact up_p (by decide)
        have c9 : (0 : Int32) ≤ (M8.1 26 0 38) ∧ (M8.1 26 0 38) ≤ (12 : Int32) := hM8.at1 26 0 38
        exact vp_of (by decide) (by grind) (show ((M37.1 26 0 38) - (1 : Int32)) < (12 : Int32) by grind)
      have g6 := vp_to (by decide) g6
      have g6 : (0 : Int32) ≤ ((M37.1 26 0 38) - (1 : Int32)) ∧ ((M37.1 26 0 38) - (1 : Int32)) < (12 : Int32) := g6
      refine ok_ite (fun q10 => ?_) (fun q10 => ?_)
      · have p11 : (0 : Int32) ≤ p0 ∧ p0 ≤ (40 : Int32) := by
          exact ⟨by grind, by grind⟩
        have p12 : (0 : Int32) ≤ v6 ∧ v6 ≤ (23 : Int32) := by
          exact ⟨by grind, by grind⟩
        have p13 : (1 : Int32) = 1 ∨ (1 : Int32) = (-1) := by
          have c14 : (0 : Int32) ≤ (M8.1 34 0 (p1).toNatClampNeg) ∧ (M8.1 34 0 (p1).toNatClampNeg) ≤ (4 : Int32) := hM8.at1 34 0 ((p1).toNatClampNeg)
          have c15 : (0 : Int32) ≤ (M8.1 26 0 40) ∧ (M8.1 26 0 40) ≤ (300 : Int32) := hM8.at1 26 0 40
          have c16 : (0 : Int32) ≤ (M8.1 26 0 38) ∧ (M8.1 26 0 38) ≤ (12 : Int32) := hM8.at1 26 0 38
          have c17 : (0 : Int32) ≤ (M8.1 26 0 39) ∧ (M8.1 26 0 39) ≤ (6 : Int32) := hM8.at1 26 0 39
          have c18 : (0 : Int32) ≤ (M37.1 26 0 38) ∧ (M37.1 26 0 38) ≤ (12 : Int32) := hM37.at1 26 0 38
          have c19 : (M37.1 26 0 38) = (M8.1 26 0 38) := by rw [e1]; exact up_p (by decide)
          have c20 : (M37.1 53 0 (((M37.1 26 0 38) - (1 : Int32))).toNatClampNeg) = (M8.1 53 0 (((M37.1 26 0 38) - (1 : Int32))).toNatClampNeg) := by rw [e1]; exact up_k (by decide)
          grind
        refine ok_b0 (s_X7_partner M37 hM37 p0 p11 v6 p12 (1 : Int32) ⟨by decide, by decide⟩ p13) (fun v50 w21 => ?_)
        have w22 : ((-1) : Int32) ≤ v50 ∧ v50 ≤ (23 : Int32) := w21
        have p23 : FU (M37.1 26 0 40) 300 _ := by
          have c24 : (0 : Int32) ≤ (M37.1 26 0 40) ∧ (M37.1 26 0 40) ≤ (300 : Int32) := hM37.at1 26 0 40
          have c25 : (M37.1 26 0 40) = ((M8.1 26 0 40) + (1 : Int32)) := by rw [e1]; exact up_s
          have c26 : (0 : Int32) ≤ (M8.1 26 0 40) ∧ (M8.1 26 0 40) ≤ (300 : Int32) := hM8.at1 26 0 40
          exact FU.stepe hF (by grind) (by grind)
        have p27 : (0 : Int32) ≤ (v50 + (1 : Int32)) ∧ (v50 + (1 : Int32)) ≤ (24 : Int32) := by
          exact ⟨by grind, by grind⟩
        have p28 : (0 : Int32) ≤ v7 ∧ v7 ≤ (4 : Int32) := by
          exact ⟨by grind, by grind⟩
        have p29 : v7 ≤ (M37.1 34 0 (p1).toNatClampNeg) := by
          have c30 : (0 : Int32) ≤ (M37.1 34 0 (p1).toNatClampNeg) ∧ (M37.1 34 0 (p1).toNatClampNeg) ≤ (4 : Int32) := hM37.at1 34 0 ((p1).toNatClampNeg)
          have c31 : (M37.1 34 0 (p1).toNatClampNeg) = (M8.1 34 0 (p1).toNatClampNeg) := by rw [e1]; exact up_k (by decide)
          have c32 : (0 : Int32) ≤ (M8.1 34 0 (p1).toNatClampNeg) ∧ (M8.1 34 0 (p1).toNatClampNeg) ≤ (4 : Int32) := hM8.at1 34 0 ((p1).toNatClampNeg)
          grind
        exact hrc (v50 + (1 : Int32)) v7 M37 k4 p23 p27 p28 hM37 p29 hk
      · have p33 : FU (M37.1 26 0 40) 300 _ := by
          have c34 : (0 : Int32) ≤ (M37.1 26 0 40) ∧ (M37.1 26 0 40) ≤ (300 : Int32) := hM37.at1 26 0 40
          have c35 : (M37.1 26 0 40) = ((M8.1 26 0 40) + (1 : Int32)) := by rw [e1]; exact up_s
          have c36 : (0 : Int32) ≤ (M8.1 26 0 40) ∧ (M8.1 26 0 40) ≤ (300 : Int32) := hM8.at1 26 0 40
          exact FU.stepe hF (by grind) (by grind)
        have p37 : (0 : Int32) ≤ (v6 + (1 : Int32)) ∧ (v6 + (1 : Int32)) ≤ (24 : Int32) := by
          exact ⟨by grind, by grind⟩
        have p38 : (0 : Int32) ≤ v7 ∧ v7 ≤ (4 : Int32) := by
          exact ⟨by grind, by grind⟩
        have p39 : v7 ≤ (M37.1 34 0 (p1).toNatClampNeg) := by
          have c40 : (0 : Int32) ≤ (M37.1 34 0 (p1).toNatClampNeg) ∧ (M37.1 34 0 (p1).toNatClampNeg) ≤ (4 : Int32) := hM37.at1 34 0 ((p1).toNatClampNeg)
          have c41 : (M37.1 34 0 (p1).toNatClampNeg) = (M8.1 34 0 (p1).toNatClampNeg) := by rw [e1]; exact up_k (by decide)
          have c42 : (0 : Int32) ≤ (M8.1 34 0 (p1).toNatClampNeg) ∧ (M8.1 34 0 (p1).toNatClampNeg) ≤ (4 : Int32) := hM8.at1 34 0 ((p1).toNatClampNeg)
          grind
        exact hrc (v6 + (1 : Int32)) v7 M37 k4 p33 p37 p38 hM37 p39 hk
    · refine ok_ite (fun q43 => ?_) (fun q43 => ?_)
      · refine ok_gd ?_ (fun g44 => ?_)
        · have c45 : (0 : Int32) ≤ (M37.1 26 0 38) ∧ (M37.1 26 0 38) ≤ (12 : Int32) := hM37.at1 26 0 38
          have c46 : (M37.1 26 0 38) = (M8.1 26 0 38) := by rw [e1]; exact up_p (by decide)
          have c47 : (0 : Int32) ≤ (M8.1 26 0 38) ∧ (M8.1 26 0 38) ≤ (12 : Int32) := hM8.at1 26 0 38
          exact vp_of (by decide) (by grind) (show ((M37.1 26 0 38) - (1 : Int32)) < (12 : Int32) by grind)
        have g44 := vp_to (by decide) g44
        have g44 : (0 : Int32) ≤ ((M37.1 26 0 38) - (1 : Int32)) ∧ ((M37.1 26 0 38) - (1 : Int32)) < (12 : Int32) := g44
        refine ok_ite (fun q48 => ?_) (fun q48 => ?_)
        · have p49 : FU (M37.1 26 0 40) 300 _ := by
            have c50 : (0 : Int32) ≤ (M37.1 26 0 40) ∧ (M37.1 26 0 40) ≤ (300 : Int32) := hM37.at1 26 0 40
            have c51 : (M37.1 26 0 40) = ((M8.1 26 0 40) + (1 : Int32)) := by rw [e1]; exact up_s
            have c52 : (0 : Int32) ≤ (M8.1 26 0 40) ∧ (M8.1 26 0 40) ≤ (300 : Int32) := hM8.at1 26 0 40
            exact FU.stepe hF (by grind) (by grind)
          have p53 : (0 : Int32) ≤ (v6 + (1 : Int32)) ∧ (v6 + (1 : Int32)) ≤ (24 : Int32) := by
            exact ⟨by grind, by grind⟩
          have p54 : (0 : Int32) ≤ v7 ∧ v7 ≤ (4 : Int32) := by
            exact ⟨by grind, by grind⟩
          have p55 : v7 ≤ (M37.1 34 0 (p1).toNatClampNeg) := by
            have c56 : (0 : Int32) ≤ (M37.1 34 0 (p1).toNatClampNeg) ∧ (M37.1 34 0 (p1).toNatClampNeg) ≤ (4 : Int32) := hM37.at1 34 0 ((p1).toNatClampNeg)
            have c57 : (M37.1 34 0 (p1).toNatClampNeg) = (M8.1 34 0 (p1).toNatClampNeg) := by rw [e1]; exact up_k (by decide)
            have c58 : (0 : Int32) ≤ (M8.1 34 0 (p1).toNatClampNeg) ∧ (M8.1 34 0 (p1).toNatClampNeg) ≤ (4 : Int32) := hM8.at1 34 0 ((p1).toNatClampNeg)
            grind
          exact hrc (v6 + (1 : Int32)) v7 M37 k4 p49 p53 p54 hM37 p55 hk
        · have p59 : (0 : Int32) ≤ p0 ∧ p0 ≤ (40 : Int32) := by
            exact ⟨by grind, by grind⟩
          have p60 : (0 : Int32) ≤ v6 ∧ v6 ≤ (23 : Int32) := by
            exact ⟨by grind, by grind⟩
          have p61 : ((-1) : Int32) = 1 ∨ ((-1) : Int32) = (-1) := by
            have c62 : (0 : Int32) ≤ (M8.1 34 0 (p1).toNatClampNeg) ∧ (M8.1 34 0 (p1).toNatClampNeg) ≤ (4 : Int32) := hM8.at1 34 0 ((p1).toNatClampNeg)
            have c63 : (0 : Int32) ≤ (M8.1 26 0 40) ∧ (M8.1 26 0 40) ≤ (300 : Int32) := hM8.at1 26 0 40
            have c64 : (0 : Int32) ≤ (M8.1 26 0 38) ∧ (M8.1 26 0 38) ≤ (12 : Int32) := hM8.at1 26 0 38
            have c65 : (0 : Int32) ≤ (M8.1 26 0 39) ∧ (M8.1 26 0 39) ≤ (6 : Int32) := hM8.at1 26 0 39
            have c66 : (0 : Int32) ≤ (M37.1 26 0 38) ∧ (M37.1 26 0 38) ≤ (12 : Int32) := hM37.at1 26 0 38
            have c67 : (M37.1 26 0 38) = (M8.1 26 0 38) := by rw [e1]; exact up_p (by decide)
            have c68 : (M37.1 53 0 (((M37.1 26 0 38) - (1 : Int32))).toNatClampNeg) = (M8.1 53 0 (((M37.1 26 0 38) - (1 : Int32))).toNatClampNeg) := by rw [e1]; exact up_k (by decide)
            grind
          refine ok_b0 (s_X7_partner M37 hM37 p0 p59 v6 p60 ((-1) : Int32) ⟨by decide, by decide⟩ p61) (fun v46 w69 => ?_)
          have w70 : ((-1) : Int32) ≤ v46 ∧ v46 ≤ (23 : Int32) := w69
          have p71 : FU (M37.1 26 0 40) 300 _ := by
            have c72 : (0 : Int32) ≤ (M37.1 26 0 40) ∧ (M37.1 26 0 40) ≤ (300 : Int32) := hM37.at1 26 0 40
            have c73 : (M37.1 26 0 40) = ((M8.1 26 0 40) + (1 : Int32)) := by rw [e1]; exact up_s
            have c74 : (0 : Int32) ≤ (M8.1 26 0 40) ∧ (M8.1 26 0 40) ≤ (300 : Int32) := hM8.at1 26 0 40
            exact FU.stepe hF (by grind) (by grind)
          have p75 : (0 : Int32) ≤ (v46 + (1 : Int32)) ∧ (v46 + (1 : Int32)) ≤ (24 : Int32) := by
            exact ⟨by grind, by grind⟩
          have p76 : (0 : Int32) ≤ v7 ∧ v7 ≤ (4 : Int32) := by
            exact ⟨by grind, by grind⟩
          have p77 : v7 ≤ (M37.1 34 0 (p1).toNatClampNeg) := by
            have c78 : (0 : Int32) ≤ (M37.1 34 0 (p1).toNatClampNeg) ∧ (M37.1 34 0 (p1).toNatClampNeg) ≤ (4 : Int32) := hM37.at1 34 0 ((p1).toNatClampNeg)
            have c79 : (M37.1 34 0 (p1).toNatClampNeg) = (M8.1 34 0 (p1).toNatClampNeg) := by rw [e1]; exact up_k (by decide)
            have c80 : (0 : Int32) ≤ (M8.1 34 0 (p1).toNatClampNeg) ∧ (M8.1 34 0 (p1).toNatClampNeg) ≤ (4 : Int32) := hM8.at1 34 0 ((p1).toNatClampNeg)
            grind
          exact hrc (v46 + (1 : Int32)) v7 M37 k4 p71 p75 p76 hM37 p77 hk
      · have p81 : (0 : Int32) ≤ v26 ∧ v26 ≤ (65535 : Int32) := by
          exact ⟨by grind, by grind⟩
        have p82 : (1 : Int32) ≤ (M37.1 26 0 38) := by
          have c83 : (0 : Int32) ≤ (M37.1 26 0 38) ∧ (M37.1 26 0 38) ≤ (12 : Int32) := hM37.at1 26 0 38
          have c84 : (M37.1 26 0 38) = (M8.1 26 0 38) := by rw [e1]; exact up_p (by decide)
          have c85 : (0 : Int32) ≤ (M8.1 26 0 38) ∧ (M8.1 26 0 38) ≤ (12 : Int32) := hM8.at1 26 0 38
          grind
        have p86 : v26 = 112 ∨ v26 = 111 ∨ (2 : Int32) ≤ (M37.1 26 0 38) := by
          have c87 : (0 : Int32) ≤ (M37.1 26 0 38) ∧ (M37.1 26 0 38) ≤ (12 : Int32) := hM37.at1 26 0 38
          have c88 : (M37.1 26 0 38) = (M8.1 26 0 38) := by rw [e1]; exact up_p (by decide)
          have c89 : (0 : Int32) ≤ (M8.1 26 0 38) ∧ (M8.1 26 0 38) ≤ (12 : Int32) := hM8.at1 26 0 38
          grind
        have p90 : (v26 = 112 ∨ v26 = 111 ∨ v26 = 115 ∨ v26 = 43 ∨ v26 = 45 ∨ v26 = 42) ∨ ¬ (M37.1 53 0 (((M37.1 26 0 38) - (1 : Int32))).toNatClampNeg) = 0 := by
          have c91 : (M37.1 53 0 (((M37.1 26 0 38) - (1 : Int32))).toNatClampNeg) = (M8.1 53 0 (((M37.1 26 0 38) - (1 : Int32))).toNatClampNeg) := by rw [e1]; exact up_k (by decide)
          have c92 : (0 : Int32) ≤ (M37.1 26 0 38) ∧ (M37.1 26 0 38) ≤ (12 : Int32) := hM37.at1 26 0 38
          have c93 : (M37.1 26 0 38) = (M8.1 26 0 38) := by rw [e1]; exact up_p (by decide)
          have c94 : (0 : Int32) ≤ (M8.1 26 0 38) ∧ (M8.1 26 0 38) ≤ (12 : Int32) := hM8.at1 26 0 38
          grind
        have p95 : v26 = 111 → (M37.1 26 0 39) < (6 : Int32) := by
          have c96 : (0 : Int32) ≤ (M37.1 26 0 39) ∧ (M37.1 26 0 39) ≤ (6 : Int32) := hM37.at1 26 0 39
          have c97 : (M37.1 26 0 39) = (M8.1 26 0 39) := by rw [e1]; exact up_p (by decide)
          have c98 : (0 : Int32) ≤ (M8.1 26 0 39) ∧ (M8.1 26 0 39) ≤ (6 : Int32) := hM8.at1 26 0 39
          grind
        have f99 := ok_and (s_X7_changes M37 hM37 v26 p81 p82 p86 p90 p95 (a1) (a2) (fun p => a4 p) (fun p => a5 p)) (s_X7_changes (A := (fun k i p => (k = 26 ∧ p = 38) ∨ (k = 26 ∧ p = 39) ∨ (k = 53) ∨ (k = 54))) (B := M37) M37 hM37.self v26 p81 p82 p86 p90 p95 (by simp) (by simp) (by simp) (by simp))
        refine ok_b1 f99 (fun M42 v41 w100 => ?_)
        have w100a := w100.1
        have w100f : IV (fun k i p => (k = 26 ∧ p = 38) ∨ (k = 26 ∧ p = 39) ∨ (k = 53) ∨ (k = 54)) M37 M42 := w100.2.1
        have hM42 : IV A B M42 := w100a.1
        have p101 : FU (M42.1 26 0 40) 300 _ := by
          have c102 : (0 : Int32) ≤ (M42.1 26 0 40) ∧ (M42.1 26 0 40) ≤ (300 : Int32) := hM42.at1 26 0 40
          have c103 : (M42.1 26 0 40) = (M37.1 26 0 40) := w100f.same (by simp)
          have c104 : (0 : Int32) ≤ (M8.1 26 0 40) ∧ (M8.1 26 0 40) ≤ (300 : Int32) := hM8.at1 26 0 40
          have c105 : (0 : Int32) ≤ (M37.1 26 0 40) ∧ (M37.1 26 0 40) ≤ (300 : Int32) := hM37.at1 26 0 40
          have c106 : (M37.1 26 0 40) = ((M8.1 26 0 40) + (1 : Int32)) := by rw [e1]; exact up_s
          exact FU.stepe hF (by grind) (by grind)
        have p107 : (0 : Int32) ≤ (v6 + (1 : Int32)) ∧ (v6 + (1 : Int32)) ≤ (24 : Int32) := by
          exact ⟨by grind, by grind⟩
        have p108 : (0 : Int32) ≤ v7 ∧ v7 ≤ (4 : Int32) := by
          exact ⟨by grind, by grind⟩
        have p109 : v7 ≤ (M42.1 34 0 (p1).toNatClampNeg) := by
          have c110 : (0 : Int32) ≤ (M42.1 34 0 (p1).toNatClampNeg) ∧ (M42.1 34 0 (p1).toNatClampNeg) ≤ (4 : Int32) := hM42.at1 34 0 ((p1).toNatClampNeg)
          have c111 : (M42.1 34 0 (p1).toNatClampNeg) = (M37.1 34 0 (p1).toNatClampNeg) := w100f.same (by simp)
          have c112 : (0 : Int32) ≤ (M8.1 34 0 (p1).toNatClampNeg) ∧ (M8.1 34 0 (p1).toNatClampNeg) ≤ (4 : Int32) := hM8.at1 34 0 ((p1).toNatClampNeg)
          have c113 : (0 : Int32) ≤ (M37.1 34 0 (p1).toNatClampNeg) ∧ (M37.1 34 0 (p1).toNatClampNeg) ≤ (4 : Int32) := hM37.at1 34 0 ((p1).toNatClampNeg)
          have c114 : (M37.1 34 0 (p1).toNatClampNeg) = (M8.1 34 0 (p1).toNatClampNeg) := by rw [e1]; exact up_k (by decide)
          grind
        exact hrc (v6 + (1 : Int32)) v7 M42 k4 p101 p107 p108 hM42 p109 hk
  · refine ok_ite (fun q115 => ?_) (fun q115 => ?_)
    · refine ok_gd ?_ (fun g116 => ?_)
      · exact vp_of (by decide) (by grind) (show (((24 : Int32) * p0) + v6) < (984 : Int32) by grind)
      have g116 := vp_to (by decide) g116
      have g116 : (0 : Int32) ≤ (((24 : Int32) * p0) + v6) ∧ (((24 : Int32) * p0) + v6) < (984 : Int32) := g116
      unfold f_X7_runs_J257
      refine ok_gd ?_ (fun g117 => ?_)
      · have c118 : (0 : Int32) ≤ (M37.1 26 0 38) ∧ (M37.1 26 0 38) ≤ (12 : Int32) := hM37.at1 26 0 38
        have c119 : (M37.1 26 0 38) = (M8.1 26 0 38) := by rw [e1]; exact up_p (by decide)
        have c120 : (0 : Int32) ≤ (M8.1 26 0 38) ∧ (M8.1 26 0 38) ≤ (12 : Int32) := hM8.at1 26 0 38
        exact vp_of (by decide) (by grind) (show (M37.1 26 0 38) < (12 : Int32) by grind)
      have g117 := vp_to (by decide) g117
      have g117 : (0 : Int32) ≤ (M37.1 26 0 38) ∧ (M37.1 26 0 38) < (12 : Int32) := g117
      refine ok_lq (fun M55 e121 => ?_)
      have hM55 : IV A B M55 := by rw [e121]; exact hM37.u1f rfl (a4 (((M37.1 26 0 38)).toNatClampNeg)) rfl
      refine ok_ite (fun q122 => ?_) (fun q122 => ?_)
      · unfold f_X7_runs_J271
        refine ok_lq (fun v58 e123 => ?_)
        refine ok_lq (fun M59 e124 => ?_)
        have p125 : (0 : Int32) ≤ ((M55.1 26 0 38) + (1 : Int32)) ∧ ((M55.1 26 0 38) + (1 : Int32)) ≤ (12 : Int32) := by
          have c126 : (0 : Int32) ≤ (M55.1 26 0 38) ∧ (M55.1 26 0 38) ≤ (12 : Int32) := hM55.at1 26 0 38
          have c127 : (M55.1 26 0 38) = (M37.1 26 0 38) := by rw [e121]; exact up_k (by decide)
          have c128 : (0 : Int32) ≤ (M37.1 26 0 38) ∧ (M37.1 26 0 38) ≤ (12 : Int32) := hM37.at1 26 0 38
          have c129 : (M37.1 26 0 38) = (M8.1 26 0 38) := by rw [e1]; exact up_p (by decide)
          have c130 : (0 : Int32) ≤ (M8.1 26 0 38) ∧ (M8.1 26 0 38) ≤ (12 : Int32) := hM8.at1 26 0 38
          exact ⟨by grind, by grind⟩
        have hM59 : IV A B M59 := by rw [e124]; exact hM55.u1 rfl (a1) p125
        have p131 : FU (M59.1 26 0 40) 300 _ := by
          have c132 : (0 : Int32) ≤ (M59.1 26 0 40) ∧ (M59.1 26 0 40) ≤ (300 : Int32) := hM59.at1 26 0 40
          have c133 : (M59.1 26 0 40) = (M55.1 26 0 40) := by rw [e124]; exact up_p (by decide)
          have c134 : (0 : Int32) ≤ (M8.1 26 0 40) ∧ (M8.1 26 0 40) ≤ (300 : Int32) := hM8.at1 26 0 40
          have c135 : (0 : Int32) ≤ (M55.1 26 0 40) ∧ (M55.1 26 0 40) ≤ (300 : Int32) := hM55.at1 26 0 40
          have c136 : (M55.1 26 0 40) = (M37.1 26 0 40) := by rw [e121]; exact up_k (by decide)
          have c137 : (0 : Int32) ≤ (M37.1 26 0 40) ∧ (M37.1 26 0 40) ≤ (300 : Int32) := hM37.at1 26 0 40
          have c138 : (M37.1 26 0 40) = ((M8.1 26 0 40) + (1 : Int32)) := by rw [e1]; exact up_s
          exact FU.stepe hF (by grind) (by grind)
        have p139 : (0 : Int32) ≤ (v6 + (1 : Int32)) ∧ (v6 + (1 : Int32)) ≤ (24 : Int32) := by
          exact ⟨by grind, by grind⟩
        have p140 : (0 : Int32) ≤ v58 ∧ v58 ≤ (4 : Int32) := by
          exact ⟨by grind, by grind⟩
        have p141 : v58 ≤ (M59.1 34 0 (p1).toNatClampNeg) := by
          have c142 : (0 : Int32) ≤ (M59.1 34 0 (p1).toNatClampNeg) ∧ (M59.1 34 0 (p1).toNatClampNeg) ≤ (4 : Int32) := hM59.at1 34 0 ((p1).toNatClampNeg)
          have c143 : (M59.1 34 0 (p1).toNatClampNeg) = (M55.1 34 0 (p1).toNatClampNeg) := by rw [e124]; exact up_k (by decide)
          have c144 : (0 : Int32) ≤ (M8.1 34 0 (p1).toNatClampNeg) ∧ (M8.1 34 0 (p1).toNatClampNeg) ≤ (4 : Int32) := hM8.at1 34 0 ((p1).toNatClampNeg)
          have c145 : (0 : Int32) ≤ (M55.1 34 0 (p1).toNatClampNeg) ∧ (M55.1 34 0 (p1).toNatClampNeg) ≤ (4 : Int32) := hM55.at1 34 0 ((p1).toNatClampNeg)
          have c146 : (M55.1 34 0 (p1).toNatClampNeg) = (M37.1 34 0 (p1).toNatClampNeg) := by rw [e121]; exact up_k (by decide)
          have c147 : (0 : Int32) ≤ (M37.1 34 0 (p1).toNatClampNeg) ∧ (M37.1 34 0 (p1).toNatClampNeg) ≤ (4 : Int32) := hM37.at1 34 0 ((p1).toNatClampNeg)
          have c148 : (M37.1 34 0 (p1).toNatClampNeg) = (M8.1 34 0 (p1).toNatClampNeg) := by rw [e1]; exact up_k (by decide)
          grind
        exact hrc (v6 + (1 : Int32)) v58 M59 k4 p131 p139 p140 hM59 p141 hk
      · unfold f_X7_runs_J271
        refine ok_lq (fun v58 e149 => ?_)
        refine ok_lq (fun M59 e150 => ?_)
        have p151 : (0 : Int32) ≤ ((M55.1 26 0 38) + (1 : Int32)) ∧ ((M55.1 26 0 38) + (1 : Int32)) ≤ (12 : Int32) := by
          have c152 : (0 : Int32) ≤ (M55.1 26 0 38) ∧ (M55.1 26 0 38) ≤ (12 : Int32) := hM55.at1 26 0 38
          have c153 : (M55.1 26 0 38) = (M37.1 26 0 38) := by rw [e121]; exact up_k (by decide)
          have c154 : (0 : Int32) ≤ (M37.1 26 0 38) ∧ (M37.1 26 0 38) ≤ (12 : Int32) := hM37.at1 26 0 38
          have c155 : (M37.1 26 0 38) = (M8.1 26 0 38) := by rw [e1]; exact up_p (by decide)
          have c156 : (0 : Int32) ≤ (M8.1 26 0 38) ∧ (M8.1 26 0 38) ≤ (12 : Int32) := hM8.at1 26 0 38
          exact ⟨by grind, by grind⟩
        have hM59 : IV A B M59 := by rw [e150]; exact hM55.u1 rfl (a1) p151
        have p157 : FU (M59.1 26 0 40) 300 _ := by
          have c158 : (0 : Int32) ≤ (M59.1 26 0 40) ∧ (M59.1 26 0 40) ≤ (300 : Int32) := hM59.at1 26 0 40
          have c159 : (M59.1 26 0 40) = (M55.1 26 0 40) := by rw [e150]; exact up_p (by decide)
          have c160 : (0 : Int32) ≤ (M8.1 26 0 40) ∧ (M8.1 26 0 40) ≤ (300 : Int32) := hM8.at1 26 0 40
          have c161 : (0 : Int32) ≤ (M55.1 26 0 40) ∧ (M55.1 26 0 40) ≤ (300 : Int32) := hM55.at1 26 0 40
          have c162 : (M55.1 26 0 40) = (M37.1 26 0 40) := by rw [e121]; exact up_k (by decide)
          have c163 : (0 : Int32) ≤ (M37.1 26 0 40) ∧ (M37.1 26 0 40) ≤ (300 : Int32) := hM37.at1 26 0 40
          have c164 : (M37.1 26 0 40) = ((M8.1 26 0 40) + (1 : Int32)) := by rw [e1]; exact up_s
          exact FU.stepe hF (by grind) (by grind)
        have p165 : (0 : Int32) ≤ (v6 + (1 : Int32)) ∧ (v6 + (1 : Int32)) ≤ (24 : Int32) := by
          exact ⟨by grind, by grind⟩
        have p166 : (0 : Int32) ≤ v58 ∧ v58 ≤ (4 : Int32) := by
          exact ⟨by grind, by grind⟩
        have p167 : v58 ≤ (M59.1 34 0 (p1).toNatClampNeg) := by
          have c168 : (0 : Int32) ≤ (M59.1 34 0 (p1).toNatClampNeg) ∧ (M59.1 34 0 (p1).toNatClampNeg) ≤ (4 : Int32) := hM59.at1 34 0 ((p1).toNatClampNeg)
          have c169 : (M59.1 34 0 (p1).toNatClampNeg) = (M55.1 34 0 (p1).toNatClampNeg) := by rw [e150]; exact up_k (by decide)
          have c170 : (0 : Int32) ≤ (M8.1 34 0 (p1).toNatClampNeg) ∧ (M8.1 34 0 (p1).toNatClampNeg) ≤ (4 : Int32) := hM8.at1 34 0 ((p1).toNatClampNeg)
          have c171 : (0 : Int32) ≤ (M55.1 34 0 (p1).toNatClampNeg) ∧ (M55.1 34 0 (p1).toNatClampNeg) ≤ (4 : Int32) := hM55.at1 34 0 ((p1).toNatClampNeg)
          have c172 : (M55.1 34 0 (p1).toNatClampNeg) = (M37.1 34 0 (p1).toNatClampNeg) := by rw [e121]; exact up_k (by decide)
          have c173 : (0 : Int32) ≤ (M37.1 34 0 (p1).toNatClampNeg) ∧ (M37.1 34 0 (p1).toNatClampNeg) ≤ (4 : Int32) := hM37.at1 34 0 ((p1).toNatClampNeg)
          have c174 : (M37.1 34 0 (p1).toNatClampNeg) = (M8.1 34 0 (p1).toNatClampNeg) := by rw [e1]; exact up_k (by decide)
          grind
        exact hrc (v6 + (1 : Int32)) v58 M59 k4 p157 p165 p166 hM59 p167 hk
    · refine ok_ite (fun q175 => ?_) (fun q175 => ?_)
      · refine ok_gd ?_ (fun g176 => ?_)
        · have c177 : (0 : Int32) ≤ (M37.1 26 0 38) ∧ (M37.1 26 0 38) ≤ (12 : Int32) := hM37.at1 26 0 38
          have c178 : (M37.1 26 0 38) = (M8.1 26 0 38) := by rw [e1]; exact up_p (by decide)
          have c179 : (0 : Int32) ≤ (M8.1 26 0 38) ∧ (M8.1 26 0 38) ≤ (12 : Int32) := hM8.at1 26 0 38
          exact vp_of (by decide) (by grind) (show ((M37.1 26 0 38) - (1 : Int32)) < (12 : Int32) by grind)
        have g176 := vp_to (by decide) g176
        have g176 : (0 : Int32) ≤ ((M37.1 26 0 38) - (1 : Int32)) ∧ ((M37.1 26 0 38) - (1 : Int32)) < (12 : Int32) := g176
        unfold f_X7_runs_J257
        refine ok_gd ?_ (fun g180 => ?_)
        · have c181 : (0 : Int32) ≤ (M37.1 26 0 38) ∧ (M37.1 26 0 38) ≤ (12 : Int32) := hM37.at1 26 0 38
          have c182 : (M37.1 26 0 38) = (M8.1 26 0 38) := by rw [e1]; exact up_p (by decide)
          have c183 : (0 : Int32) ≤ (M8.1 26 0 38) ∧ (M8.1 26 0 38) ≤ (12 : Int32) := hM8.at1 26 0 38
          exact vp_of (by decide) (by grind) (show (M37.1 26 0 38) < (12 : Int32) by grind)
        have g180 := vp_to (by decide) g180
        have g180 : (0 : Int32) ≤ (M37.1 26 0 38) ∧ (M37.1 26 0 38) < (12 : Int32) := g180
        refine ok_lq (fun M55 e184 => ?_)
        have hM55 : IV A B M55 := by rw [e184]; exact hM37.u1f rfl (a4 (((M37.1 26 0 38)).toNatClampNeg)) rfl
        refine ok_ite (fun q185 => ?_) (fun q185 => ?_)
        · unfold f_X7_runs_J271
          refine ok_lq (fun v58 e186 => ?_)
          refine ok_lq (fun M59 e187 => ?_)
          have p188 : (0 : Int32) ≤ ((M55.1 26 0 38) + (1 : Int32)) ∧ ((M55.1 26 0 38) + (1 : Int32)) ≤ (12 : Int32) := by
            have c189 : (0 : Int32) ≤ (M55.1 26 0 38) ∧ (M55.1 26 0 38) ≤ (12 : Int32) := hM55.at1 26 0 38
            have c190 : (M55.1 26 0 38) = (M37.1 26 0 38) := by rw [e184]; exact up_k (by decide)
            have c191 : (0 : Int32) ≤ (M37.1 26 0 38) ∧ (M37.1 26 0 38) ≤ (12 : Int32) := hM37.at1 26 0 38
            have c192 : (M37.1 26 0 38) = (M8.1 26 0 38) := by rw [e1]; exact up_p (by decide)
            have c193 : (0 : Int32) ≤ (M8.1 26 0 38) ∧ (M8.1 26 0 38) ≤ (12 : Int32) := hM8.at1 26 0 38
            exact ⟨by grind, by grind⟩
          have hM59 : IV A B M59 := by rw [e187]; exact hM55.u1 rfl (a1) p188
          have p194 : FU (M59.1 26 0 40) 300 _ := by
            have c195 : (0 : Int32) ≤ (M59.1 26 0 40) ∧ (M59.1 26 0 40) ≤ (300 : Int32) := hM59.at1 26 0 40
            have c196 : (M59.1 26 0 40) = (M55.1 26 0 40) := by rw [e187]; exact up_p (by decide)
            have c197 : (0 : Int32) ≤ (M8.1 26 0 40) ∧ (M8.1 26 0 40) ≤ (300 : Int32) := hM8.at1 26 0 40
            have c198 : (0 : Int32) ≤ (M55.1 26 0 40) ∧ (M55.1 26 0 40) ≤ (300 : Int32) := hM55.at1 26 0 40
            have c199 : (M55.1 26 0 40) = (M37.1 26 0 40) := by rw [e184]; exact up_k (by decide)
            have c200 : (0 : Int32) ≤ (M37.1 26 0 40) ∧ (M37.1 26 0 40) ≤ (300 : Int32) := hM37.at1 26 0 40
            have c201 : (M37.1 26 0 40) = ((M8.1 26 0 40) + (1 : Int32)) := by rw [e1]; exact up_s
            exact FU.stepe hF (by grind) (by grind)
          have p202 : (0 : Int32) ≤ (v6 + (1 : Int32)) ∧ (v6 + (1 : Int32)) ≤ (24 : Int32) := by
            exact ⟨by grind, by grind⟩
          have p203 : (0 : Int32) ≤ v58 ∧ v58 ≤ (4 : Int32) := by
            exact ⟨by grind, by grind⟩
          have p204 : v58 ≤ (M59.1 34 0 (p1).toNatClampNeg) := by
            have c205 : (0 : Int32) ≤ (M59.1 34 0 (p1).toNatClampNeg) ∧ (M59.1 34 0 (p1).toNatClampNeg) ≤ (4 : Int32) := hM59.at1 34 0 ((p1).toNatClampNeg)
            have c206 : (M59.1 34 0 (p1).toNatClampNeg) = (M55.1 34 0 (p1).toNatClampNeg) := by rw [e187]; exact up_k (by decide)
            have c207 : (0 : Int32) ≤ (M8.1 34 0 (p1).toNatClampNeg) ∧ (M8.1 34 0 (p1).toNatClampNeg) ≤ (4 : Int32) := hM8.at1 34 0 ((p1).toNatClampNeg)
            have c208 : (0 : Int32) ≤ (M55.1 34 0 (p1).toNatClampNeg) ∧ (M55.1 34 0 (p1).toNatClampNeg) ≤ (4 : Int32) := hM55.at1 34 0 ((p1).toNatClampNeg)
            have c209 : (M55.1 34 0 (p1).toNatClampNeg) = (M37.1 34 0 (p1).toNatClampNeg) := by rw [e184]; exact up_k (by decide)
            have c210 : (0 : Int32) ≤ (M37.1 34 0 (p1).toNatClampNeg) ∧ (M37.1 34 0 (p1).toNatClampNeg) ≤ (4 : Int32) := hM37.at1 34 0 ((p1).toNatClampNeg)
            have c211 : (M37.1 34 0 (p1).toNatClampNeg) = (M8.1 34 0 (p1).toNatClampNeg) := by rw [e1]; exact up_k (by decide)
            grind
          exact hrc (v6 + (1 : Int32)) v58 M59 k4 p194 p202 p203 hM59 p204 hk
        · unfold f_X7_runs_J271
          refine ok_lq (fun v58 e212 => ?_)
          refine ok_lq (fun M59 e213 => ?_)
          have p214 : (0 : Int32) ≤ ((M55.1 26 0 38) + (1 : Int32)) ∧ ((M55.1 26 0 38) + (1 : Int32)) ≤ (12 : Int32) := by
            have c215 : (0 : Int32) ≤ (M55.1 26 0 38) ∧ (M55.1 26 0 38) ≤ (12 : Int32) := hM55.at1 26 0 38
            have c216 : (M55.1 26 0 38) = (M37.1 26 0 38) := by rw [e184]; exact up_k (by decide)
            have c217 : (0 : Int32) ≤ (M37.1 26 0 38) ∧ (M37.1 26 0 38) ≤ (12 : Int32) := hM37.at1 26 0 38
            have c218 : (M37.1 26 0 38) = (M8.1 26 0 38) := by rw [e1]; exact up_p (by decide)
            have c219 : (0 : Int32) ≤ (M8.1 26 0 38) ∧ (M8.1 26 0 38) ≤ (12 : Int32) := hM8.at1 26 0 38
            exact ⟨by grind, by grind⟩
          have hM59 : IV A B M59 := by rw [e213]; exact hM55.u1 rfl (a1) p214
          have p220 : FU (M59.1 26 0 40) 300 _ := by
            have c221 : (0 : Int32) ≤ (M59.1 26 0 40) ∧ (M59.1 26 0 40) ≤ (300 : Int32) := hM59.at1 26 0 40
            have c222 : (M59.1 26 0 40) = (M55.1 26 0 40) := by rw [e213]; exact up_p (by decide)
            have c223 : (0 : Int32) ≤ (M8.1 26 0 40) ∧ (M8.1 26 0 40) ≤ (300 : Int32) := hM8.at1 26 0 40
            have c224 : (0 : Int32) ≤ (M55.1 26 0 40) ∧ (M55.1 26 0 40) ≤ (300 : Int32) := hM55.at1 26 0 40
            have c225 : (M55.1 26 0 40) = (M37.1 26 0 40) := by rw [e184]; exact up_k (by decide)
            have c226 : (0 : Int32) ≤ (M37.1 26 0 40) ∧ (M37.1 26 0 40) ≤ (300 : Int32) := hM37.at1 26 0 40
            have c227 : (M37.1 26 0 40) = ((M8.1 26 0 40) + (1 : Int32)) := by rw [e1]; exact up_s
            exact FU.stepe hF (by grind) (by grind)
          have p228 : (0 : Int32) ≤ (v6 + (1 : Int32)) ∧ (v6 + (1 : Int32)) ≤ (24 : Int32) := by
            exact ⟨by grind, by grind⟩
          have p229 : (0 : Int32) ≤ v58 ∧ v58 ≤ (4 : Int32) := by
            exact ⟨by grind, by grind⟩
          have p230 : v58 ≤ (M59.1 34 0 (p1).toNatClampNeg) := by
            have c231 : (0 : Int32) ≤ (M59.1 34 0 (p1).toNatClampNeg) ∧ (M59.1 34 0 (p1).toNatClampNeg) ≤ (4 : Int32) := hM59.at1 34 0 ((p1).toNatClampNeg)
            have c232 : (M59.1 34 0 (p1).toNatClampNeg) = (M55.1 34 0 (p1).toNatClampNeg) := by rw [e213]; exact up_k (by decide)
            have c233 : (0 : Int32) ≤ (M8.1 34 0 (p1).toNatClampNeg) ∧ (M8.1 34 0 (p1).toNatClampNeg) ≤ (4 : Int32) := hM8.at1 34 0 ((p1).toNatClampNeg)
            have c234 : (0 : Int32) ≤ (M55.1 34 0 (p1).toNatClampNeg) ∧ (M55.1 34 0 (p1).toNatClampNeg) ≤ (4 : Int32) := hM55.at1 34 0 ((p1).toNatClampNeg)
            have c235 : (M55.1 34 0 (p1).toNatClampNeg) = (M37.1 34 0 (p1).toNatClampNeg) := by rw [e184]; exact up_k (by decide)
            have c236 : (0 : Int32) ≤ (M37.1 34 0 (p1).toNatClampNeg) ∧ (M37.1 34 0 (p1).toNatClampNeg) ≤ (4 : Int32) := hM37.at1 34 0 ((p1).toNatClampNeg)
            have c237 : (M37.1 34 0 (p1).toNatClampNeg) = (M8.1 34 0 (p1).toNatClampNeg) := by rw [e1]; exact up_k (by decide)
            grind
          exact hrc (v6 + (1 : Int32)) v58 M59 k4 p220 p228 p229 hM59 p230 hk
      · refine ok_gd ?_ (fun g238 => ?_)
        · have c239 : (0 : Int32) ≤ (M8.1 34 0 (p1).toNatClampNeg) ∧ (M8.1 34 0 (p1).toNatClampNeg) ≤ (4 : Int32) := hM8.at1 34 0 ((p1).toNatClampNeg)
          exact vp_of (by decide) (by grind) (show (((4 : Int32) * p1) + v7) < (160 : Int32) by grind)
        have g238 := vp_to (by decide) g238
        have g238 : (0 : Int32) ≤ (((4 : Int32) * p1) + v7) ∧ (((4 : Int32) * p1) + v7) < (160 : Int32) := g238
        unfold f_X7_runs_J257
        refine ok_gd ?_ (fun g240 => ?_)
        · have c241 : (0 : Int32) ≤ (M37.1 26 0 38) ∧ (M37.1 26 0 38) ≤ (12 : Int32) := hM37.at1 26 0 38
          have c242 : (M37.1 26 0 38) = (M8.1 26 0 38) := by rw [e1]; exact up_p (by decide)
          have c243 : (0 : Int32) ≤ (M8.1 26 0 38) ∧ (M8.1 26 0 38) ≤ (12 : Int32) := hM8.at1 26 0 38
          exact vp_of (by decide) (by grind) (show (M37.1 26 0 38) < (12 : Int32) by grind)
        have g240 := vp_to (by decide) g240
        have g240 : (0 : Int32) ≤ (M37.1 26 0 38) ∧ (M37.1 26 0 38) < (12 : Int32) := g240
        refine ok_lq (fun M55 e244 => ?_)
        have hM55 : IV A B M55 := by rw [e244]; exact hM37.u1f rfl (a4 (((M37.1 26 0 38)).toNatClampNeg)) rfl
        refine ok_ite (fun q245 => ?_) (fun q245 => ?_)
        · unfold f_X7_runs_J271
          refine ok_lq (fun v58 e246 => ?_)
          refine ok_lq (fun M59 e247 => ?_)
          have p248 : (0 : Int32) ≤ ((M55.1 26 0 38) + (1 : Int32)) ∧ ((M55.1 26 0 38) + (1 : Int32)) ≤ (12 : Int32) := by
            have c249 : (0 : Int32) ≤ (M55.1 26 0 38) ∧ (M55.1 26 0 38) ≤ (12 : Int32) := hM55.at1 26 0 38
            have c250 : (M55.1 26 0 38) = (M37.1 26 0 38) := by rw [e244]; exact up_k (by decide)
            have c251 : (0 : Int32) ≤ (M37.1 26 0 38) ∧ (M37.1 26 0 38) ≤ (12 : Int32) := hM37.at1 26 0 38
            have c252 : (M37.1 26 0 38) = (M8.1 26 0 38) := by rw [e1]; exact up_p (by decide)
            have c253 : (0 : Int32) ≤ (M8.1 26 0 38) ∧ (M8.1 26 0 38) ≤ (12 : Int32) := hM8.at1 26 0 38
            exact ⟨by grind, by grind⟩
          have hM59 : IV A B M59 := by rw [e247]; exact hM55.u1 rfl (a1) p248
          have p254 : FU (M59.1 26 0 40) 300 _ := by
            have c255 : (0 : Int32) ≤ (M59.1 26 0 40) ∧ (M59.1 26 0 40) ≤ (300 : Int32) := hM59.at1 26 0 40
            have c256 : (M59.1 26 0 40) = (M55.1 26 0 40) := by rw [e247]; exact up_p (by decide)
            have c257 : (0 : Int32) ≤ (M8.1 26 0 40) ∧ (M8.1 26 0 40) ≤ (300 : Int32) := hM8.at1 26 0 40
            have c258 : (0 : Int32) ≤ (M55.1 26 0 40) ∧ (M55.1 26 0 40) ≤ (300 : Int32) := hM55.at1 26 0 40
            have c259 : (M55.1 26 0 40) = (M37.1 26 0 40) := by rw [e244]; exact up_k (by decide)
            have c260 : (0 : Int32) ≤ (M37.1 26 0 40) ∧ (M37.1 26 0 40) ≤ (300 : Int32) := hM37.at1 26 0 40
            have c261 : (M37.1 26 0 40) = ((M8.1 26 0 40) + (1 : Int32)) := by rw [e1]; exact up_s
            exact FU.stepe hF (by grind) (by grind)
          have p262 : (0 : Int32) ≤ (v6 + (1 : Int32)) ∧ (v6 + (1 : Int32)) ≤ (24 : Int32) := by
            exact ⟨by grind, by grind⟩
          have p263 : (0 : Int32) ≤ v58 ∧ v58 ≤ (4 : Int32) := by
            exact ⟨by grind, by grind⟩
          have p264 : v58 ≤ (M59.1 34 0 (p1).toNatClampNeg) := by
            have c265 : (0 : Int32) ≤ (M59.1 34 0 (p1).toNatClampNeg) ∧ (M59.1 34 0 (p1).toNatClampNeg) ≤ (4 : Int32) := hM59.at1 34 0 ((p1).toNatClampNeg)
            have c266 : (M59.1 34 0 (p1).toNatClampNeg) = (M55.1 34 0 (p1).toNatClampNeg) := by rw [e247]; exact up_k (by decide)
            have c267 : (0 : Int32) ≤ (M8.1 34 0 (p1).toNatClampNeg) ∧ (M8.1 34 0 (p1).toNatClampNeg) ≤ (4 : Int32) := hM8.at1 34 0 ((p1).toNatClampNeg)
            have c268 : (0 : Int32) ≤ (M55.1 34 0 (p1).toNatClampNeg) ∧ (M55.1 34 0 (p1).toNatClampNeg) ≤ (4 : Int32) := hM55.at1 34 0 ((p1).toNatClampNeg)
            have c269 : (M55.1 34 0 (p1).toNatClampNeg) = (M37.1 34 0 (p1).toNatClampNeg) := by rw [e244]; exact up_k (by decide)
            have c270 : (0 : Int32) ≤ (M37.1 34 0 (p1).toNatClampNeg) ∧ (M37.1 34 0 (p1).toNatClampNeg) ≤ (4 : Int32) := hM37.at1 34 0 ((p1).toNatClampNeg)
            have c271 : (M37.1 34 0 (p1).toNatClampNeg) = (M8.1 34 0 (p1).toNatClampNeg) := by rw [e1]; exact up_k (by decide)
            grind
          exact hrc (v6 + (1 : Int32)) v58 M59 k4 p254 p262 p263 hM59 p264 hk
        · unfold f_X7_runs_J271
          refine ok_lq (fun v58 e272 => ?_)
          refine ok_lq (fun M59 e273 => ?_)
          have p274 : (0 : Int32) ≤ ((M55.1 26 0 38) + (1 : Int32)) ∧ ((M55.1 26 0 38) + (1 : Int32)) ≤ (12 : Int32) := by
            have c275 : (0 : Int32) ≤ (M55.1 26 0 38) ∧ (M55.1 26 0 38) ≤ (12 : Int32) := hM55.at1 26 0 38
            have c276 : (M55.1 26 0 38) = (M37.1 26 0 38) := by rw [e244]; exact up_k (by decide)
            have c277 : (0 : Int32) ≤ (M37.1 26 0 38) ∧ (M37.1 26 0 38) ≤ (12 : Int32) := hM37.at1 26 0 38
            have c278 : (M37.1 26 0 38) = (M8.1 26 0 38) := by rw [e1]; exact up_p (by decide)
            have c279 : (0 : Int32) ≤ (M8.1 26 0 38) ∧ (M8.1 26 0 38) ≤ (12 : Int32) := hM8.at1 26 0 38
            exact ⟨by grind, by grind⟩
          have hM59 : IV A B M59 := by rw [e273]; exact hM55.u1 rfl (a1) p274
          have p280 : FU (M59.1 26 0 40) 300 _ := by
            have c281 : (0 : Int32) ≤ (M59.1 26 0 40) ∧ (M59.1 26 0 40) ≤ (300 : Int32) := hM59.at1 26 0 40
            have c282 : (M59.1 26 0 40) = (M55.1 26 0 40) := by rw [e273]; exact up_p (by decide)
            have c283 : (0 : Int32) ≤ (M8.1 26 0 40) ∧ (M8.1 26 0 40) ≤ (300 : Int32) := hM8.at1 26 0 40
            have c284 : (0 : Int32) ≤ (M55.1 26 0 40) ∧ (M55.1 26 0 40) ≤ (300 : Int32) := hM55.at1 26 0 40
            have c285 : (M55.1 26 0 40) = (M37.1 26 0 40) := by rw [e244]; exact up_k (by decide)
            have c286 : (0 : Int32) ≤ (M37.1 26 0 40) ∧ (M37.1 26 0 40) ≤ (300 : Int32) := hM37.at1 26 0 40
            have c287 : (M37.1 26 0 40) = ((M8.1 26 0 40) + (1 : Int32)) := by rw [e1]; exact up_s
            exact FU.stepe hF (by grind) (by grind)
          have p288 : (0 : Int32) ≤ (v6 + (1 : Int32)) ∧ (v6 + (1 : Int32)) ≤ (24 : Int32) := by
            exact ⟨by grind, by grind⟩
          have p289 : (0 : Int32) ≤ v58 ∧ v58 ≤ (4 : Int32) := by
            exact ⟨by grind, by grind⟩
          have p290 : v58 ≤ (M59.1 34 0 (p1).toNatClampNeg) := by
            have c291 : (0 : Int32) ≤ (M59.1 34 0 (p1).toNatClampNeg) ∧ (M59.1 34 0 (p1).toNatClampNeg) ≤ (4 : Int32) := hM59.at1 34 0 ((p1).toNatClampNeg)
            have c292 : (M59.1 34 0 (p1).toNatClampNeg) = (M55.1 34 0 (p1).toNatClampNeg) := by rw [e273]; exact up_k (by decide)
            have c293 : (0 : Int32) ≤ (M8.1 34 0 (p1).toNatClampNeg) ∧ (M8.1 34 0 (p1).toNatClampNeg) ≤ (4 : Int32) := hM8.at1 34 0 ((p1).toNatClampNeg)
            have c294 : (0 : Int32) ≤ (M55.1 34 0 (p1).toNatClampNeg) ∧ (M55.1 34 0 (p1).toNatClampNeg) ≤ (4 : Int32) := hM55.at1 34 0 ((p1).toNatClampNeg)
            have c295 : (M55.1 34 0 (p1).toNatClampNeg) = (M37.1 34 0 (p1).toNatClampNeg) := by rw [e244]; exact up_k (by decide)
            have c296 : (0 : Int32) ≤ (M37.1 34 0 (p1).toNatClampNeg) ∧ (M37.1 34 0 (p1).toNatClampNeg) ≤ (4 : Int32) := hM37.at1 34 0 ((p1).toNatClampNeg)
            have c297 : (M37.1 34 0 (p1).toNatClampNeg) = (M8.1 34 0 (p1).toNatClampNeg) := by rw [e1]; exact up_k (by decide)
            grind
          exact hrc (v6 + (1 : Int32)) v58 M59 k4 p280 p288 p289 hM59 p290 hk
theorem s_X7_runs_J162 {A : Nat → Nat → Nat → Prop} {B : SS} {n : Nat} (rc : Int32 → Int32 → SS → (SS → Option (SS × Int32)) → Option (SS × Int32)) (hrc : ∀ (v6 : Int32) (v7 : Int32) (M8 : SS) (k4 : (SS → Option (SS × Int32))), (FU ((M8.1 26 0 40)) 300 n) → ((0 : Int32) ≤ v6 ∧ v6 ≤ (24 : Int32)) → ((0 : Int32) ≤ v7 ∧ v7 ≤ (4 : Int32)) → (IV A B M8) → (v7 ≤ (M8.1 34 0 (p1).toNatClampNeg)) → (∀ (k_0 : SS), (IV A B k_0) → ok (k4 k_0) (fun r => IV A B r.1 ∧ (101 : Int32) ≤ r.2 ∧ r.2 ≤ (122 : Int32))) → ok (rc v6 v7 M8 k4) (fun r => IV A B r.1 ∧ (101 : Int32) ≤ r.2 ∧ r.2 ≤ (122 : Int32))) (k4 : SS → Option (SS × Int32)) (hk : ∀ (k_0 : SS), (IV A B k_0) → ok (k4 k_0) (fun r => IV A B r.1 ∧ (101 : Int32) ≤ r.2 ∧ r.2 ≤ (122 : Int32))) (v26 : Int32) (iv26 : (0 : Int32) ≤ v26 ∧ v26 ≤ (65535 : Int32)) (M8 : SS) (hM8 : IV A B M8) (v27 : Int32) (iv27 : (0 : Int32) ≤ v27 ∧ v27 ≤ (1 : Int32)) (p0 : Int32) (ip0 : (0 : Int32) ≤ p0 ∧ p0 ≤ (40 : Int32)) (v6 : Int32) (iv6 : (0 : Int32) ≤ v6 ∧ v6 ≤ (23 : Int32)) (v7 : Int32) (iv7 : (0 : Int32) ≤ v7 ∧ v7 ≤ (4 : Int32)) (p1 : Int32) (ip1 : (0 : Int32) ≤ p1 ∧ p1 ≤ (39 : Int32)) (x0 : isL v26) (x1 : (v27 = 0 ∧ ¬ v26 = 110 ∧ ¬ v26 = 105 ∧ ¬ v26 = 100) ∨ (v27 = 1 ∧ (v26 = 110 ∨ v26 = 105 ∨ v26 = 100))) (x2 : v7 ≤ (M8.1 34 0 (p1).toNatClampNeg)) (x3 : (M8.1 26 0 40) < (300 : Int32)) (x4 : (v26 = 43 ∨ v26 = 45 ∨ v26 = 42 ∨ v26 = 37 ∨ v26 = 115) → (2 : Int32) ≤ (M8.1 26 0 38)) (x5 : ¬ v26 = 110 → ¬ v26 = 105 → (1 : Int32) ≤ (M8.1 26 0 38)) (x6 : v26 = 105 → v7 < (M8.1 34 0 (p1).toNatClampNeg)) (x7 : v26 = 37 → ¬ (M8.1 53 0 (((M8.1 26 0 38) - (1 : Int32))).toNatClampNeg) = 0) (x8 : v27 = 1 → (M8.1 26 0 38) < (12 : Int32)) (a1 : A 26 0 38) (a2 : A 26 0 39) (a3 : A 26 0 40) (a4 : ∀ p, A 53 0 p) (a5 : ∀ p, A 54 0 p) (hF : FU ((M8.1 26 0 40)) 300 (n + 1)) : ok (f_X7_runs_J162 rc k4 v26 M8 v27 p0 v6 v7 p1) (fun r => IV A B r.1 ∧ (101 : Int32) ≤ r.2 ∧ r.2 ≤ (122 : Int32)) := by
  unfold f_X7_runs_J162
  refine ok_ite (fun q1 => ?_) (fun q1 => ?_)
  · refine ok_ite (fun q2 => ?_) (fun q2 => ?_)
    · have p3 : (101 : Int32) ≤ (108 : Int32) ∧ (108 : Int32) ≤ (122 : Int32) := by
        exact ⟨by grind, by grind⟩
      exact ok_some ⟨hM8, p3⟩
    · have p4 : (0 : Int32) ≤ v27 ∧ v27 ≤ (1 : Int32) := by
        exact ⟨by grind, by grind⟩
      have p5 : (0 : Int32) ≤ v26 ∧ v26 ≤ (65535 : Int32) := by
        exact ⟨by grind, by grind⟩
      have p6 : (0 : Int32) ≤ p0 ∧ p0 ≤ (40 : Int32) := by
        exact ⟨by grind, by grind⟩
      have p7 : (0 : Int32) ≤ v6 ∧ v6 ≤ (23 : Int32) := by
        exact ⟨by grind, by grind⟩
      have p8 : (0 : Int32) ≤ v7 ∧ v7 ≤ (4 : Int32) := by
        exact ⟨by grind, by grind⟩
      have p9 : (0 : Int32) ≤ p1 ∧ p1 ≤ (39 : Int32) := by
        have c10 : (0 : Int32) ≤ (M8.1 34 0 (p1).toNatClampNeg) ∧ (M8.1 34 0 (p1).toNatClampNeg) ≤ (4 : Int32) := hM8.at1 34 0 ((p1).toNatClampNeg)
        exact ⟨by grind, by grind⟩
      have p11 : isL v26 := by
        grind
      have p12 : (v27 = 0 ∧ ¬ v26 = 110 ∧ ¬ v26 = 105 ∧ ¬ v26 = 100) ∨ (v27 = 1 ∧ (v26 = 110 ∨ v26 = 105 ∨ v26 = 100)) := by
        grind
      have p13 : v7 ≤ (M8.1 34 0 (p1).toNatClampNeg) := by
        have c14 : (0 : Int32) ≤ (M8.1 34 0 (p1).toNatClampNeg) ∧ (M8.1 34 0 (p1).toNatClampNeg) ≤ (4 : Int32) := hM8.at1 34 0 ((p1).toNatClampNeg)
        grind
      have p15 : (M8.1 26 0 40) < (300 : Int32) := by
        have c16 : (0 : Int32) ≤ (M8.1 26 0 40) ∧ (M8.1 26 0 40) ≤ (300 : Int32) := hM8.at1 26 0 40
        grind
      have p17 : (v26 = 43 ∨ v26 = 45 ∨ v26 = 42 ∨ v26 = 37 ∨ v26 = 115) → (2 : Int32) ≤ (M8.1 26 0 38) := by
        have c18 : (0 : Int32) ≤ (M8.1 26 0 38) ∧ (M8.1 26 0 38) ≤ (12 : Int32) := hM8.at1 26 0 38
        grind
      have p19 : ¬ v26 = 110 → ¬ v26 = 105 → (1 : Int32) ≤ (M8.1 26 0 38) := by
        have c20 : (0 : Int32) ≤ (M8.1 26 0 38) ∧ (M8.1 26 0 38) ≤ (12 : Int32) := hM8.at1 26 0 38
        grind
      have p21 : v26 = 105 → v7 < (M8.1 34 0 (p1).toNatClampNeg) := by
        have c22 : (0 : Int32) ≤ (M8.1 34 0 (p1).toNatClampNeg) ∧ (M8.1 34 0 (p1).toNatClampNeg) ≤ (4 : Int32) := hM8.at1 34 0 ((p1).toNatClampNeg)
        grind
      have p23 : v26 = 37 → ¬ (M8.1 53 0 (((M8.1 26 0 38) - (1 : Int32))).toNatClampNeg) = 0 := by
        have c24 : (0 : Int32) ≤ (M8.1 26 0 38) ∧ (M8.1 26 0 38) ≤ (12 : Int32) := hM8.at1 26 0 38
        grind
      have p25 : v27 = 1 → (M8.1 26 0 38) < (12 : Int32) := by
        have c26 : (0 : Int32) ≤ (M8.1 26 0 38) ∧ (M8.1 26 0 38) ≤ (12 : Int32) := hM8.at1 26 0 38
        grind
      have p27 : v26 = 111 → (M8.1 26 0 39) < (6 : Int32) := by
        have c28 : (0 : Int32) ≤ (M8.1 26 0 39) ∧ (M8.1 26 0 39) ≤ (6 : Int32) := hM8.at1 26 0 39
        grind
      exact s_X7_runs_J181 (n := _) rc hrc k4 hk M8 hM8 v27 p4 v26 p5 p0 p6 v6 p7 v7 p8 p1 p9 p11 p12 p13 p15 p17 p19 p21 p23 p25 p27 (a1) (a2) (a3) (fun p => a4 p) (fun p => a5 p) hF
  · have p29 : (0 : Int32) ≤ v27 ∧ v27 ≤ (1 : Int32) := by
      exact ⟨by grind, by grind⟩
    have p30 : (0 : Int32) ≤ v26 ∧ v26 ≤ (65535 : Int32) := by
      exact ⟨by grind, by grind⟩
    have p31 : (0 : Int32) ≤ p0 ∧ p0 ≤ (40 : Int32) := by
      exact ⟨by grind, by grind⟩
    have p32 : (0 : Int32) ≤ v6 ∧ v6 ≤ (23 : Int32) := by
      exact ⟨by grind, by grind⟩
    have p33 : (0 : Int32) ≤ v7 ∧ v7 ≤ (4 : Int32) := by
      exact ⟨by grind, by grind⟩
    have p34 : (0 : Int32) ≤ p1 ∧ p1 ≤ (39 : Int32) := by
      have c35 : (0 : Int32) ≤ (M8.1 34 0 (p1).toNatClampNeg) ∧ (M8.1 34 0 (p1).toNatClampNeg) ≤ (4 : Int32) := hM8.at1 34 0 ((p1).toNatClampNeg)
      exact ⟨by grind, by grind⟩
    have p36 : isL v26 := by
      grind
    have p37 : (v27 = 0 ∧ ¬ v26 = 110 ∧ ¬ v26 = 105 ∧ ¬ v26 = 100) ∨ (v27 = 1 ∧ (v26 = 110 ∨ v26 = 105 ∨ v26 = 100)) := by
      grind
    have p38 : v7 ≤ (M8.1 34 0 (p1).toNatClampNeg) := by
      have c39 : (0 : Int32) ≤ (M8.1 34 0 (p1).toNatClampNeg) ∧ (M8.1 34 0 (p1).toNatClampNeg) ≤ (4 : Int32) := hM8.at1 34 0 ((p1).toNatClampNeg)
      grind
    have p40 : (M8.1 26 0 40) < (300 : Int32) := by
      have c41 : (0 : Int32) ≤ (M8.1 26 0 40) ∧ (M8.1 26 0 40) ≤ (300 : Int32) := hM8.at1 26 0 40
      grind
    have p42 : (v26 = 43 ∨ v26 = 45 ∨ v26 = 42 ∨ v26 = 37 ∨ v26 = 115) → (2 : Int32) ≤ (M8.1 26 0 38) := by
      have c43 : (0 : Int32) ≤ (M8.1 26 0 38) ∧ (M8.1 26 0 38) ≤ (12 : Int32) := hM8.at1 26 0 38
      grind
    have p44 : ¬ v26 = 110 → ¬ v26 = 105 → (1 : Int32) ≤ (M8.1 26 0 38) := by
      have c45 : (0 : Int32) ≤ (M8.1 26 0 38) ∧ (M8.1 26 0 38) ≤ (12 : Int32) := hM8.at1 26 0 38
      grind
    have p46 : v26 = 105 → v7 < (M8.1 34 0 (p1).toNatClampNeg) := by
      have c47 : (0 : Int32) ≤ (M8.1 34 0 (p1).toNatClampNeg) ∧ (M8.1 34 0 (p1).toNatClampNeg) ≤ (4 : Int32) := hM8.at1 34 0 ((p1).toNatClampNeg)
      grind
    have p48 : v26 = 37 → ¬ (M8.1 53 0 (((M8.1 26 0 38) - (1 : Int32))).toNatClampNeg) = 0 := by
      have c49 : (0 : Int32) ≤ (M8.1 26 0 38) ∧ (M8.1 26 0 38) ≤ (12 : Int32) := hM8.at1 26 0 38
      grind
    have p50 : v27 = 1 → (M8.1 26 0 38) < (12 : Int32) := by
      have c51 : (0 : Int32) ≤ (M8.1 26 0 38) ∧ (M8.1 26 0 38) ≤ (12 : Int32) := hM8.at1 26 0 38
      grind
    have p52 : v26 = 111 → (M8.1 26 0 39) < (6 : Int32) := by
      have c53 : (0 : Int32) ≤ (M8.1 26 0 39) ∧ (M8.1 26 0 39) ≤ (6 : Int32) := hM8.at1 26 0 39
      grind
    exact s_X7_runs_J181 (n := _) rc hrc k4 hk M8 hM8 v27 p29 v26 p30 p0 p31 v6 p32 v7 p33 p1 p34 p36 p37 p38 p40 p42 p44 p46 p48 p50 p52 (a1) (a2) (a3) (fun p => a4 p) (fun p => a5 p) hF
theorem s_X7_runs_J145 {A : Nat → Nat → Nat → Prop} {B : SS} {n : Nat} (rc : Int32 → Int32 → SS → (SS → Option (SS × Int32)) → Option (SS × Int32)) (hrc : ∀ (v6 : Int32) (v7 : Int32) (M8 : SS) (k4 : (SS → Option (SS × Int32))), (FU ((M8.1 26 0 40)) 300 n) → ((0 : Int32) ≤ v6 ∧ v6 ≤ (24 : Int32)) → ((0 : Int32) ≤ v7 ∧ v7 ≤ (4 : Int32)) → (IV A B M8) → (v7 ≤ (M8.1 34 0 (p1).toNatClampNeg)) → (∀ (k_0 : SS), (IV A B k_0) → ok (k4 k_0) (fun r => IV A B r.1 ∧ (101 : Int32) ≤ r.2 ∧ r.2 ≤ (122 : Int32))) → ok (rc v6 v7 M8 k4) (fun r => IV A B r.1 ∧ (101 : Int32) ≤ r.2 ∧ r.2 ≤ (122 : Int32))) (k4 : SS → Option (SS × Int32)) (hk : ∀ (k_0 : SS), (IV A B k_0) → ok (k4 k_0) (fun r => IV A B r.1 ∧ (101 : Int32) ≤ r.2 ∧ r.2 ≤ (122 : Int32))) (v27 : Int32) (iv27 : (0 : Int32) ≤ v27 ∧ v27 ≤ (1 : Int32)) (v26 : Int32) (iv26 : (0 : Int32) ≤ v26 ∧ v26 ≤ (65535 : Int32)) (M8 : SS) (hM8 : IV A B M8) (p0 : Int32) (ip0 : (0 : Int32) ≤ p0 ∧ p0 ≤ (40 : Int32)) (v6 : Int32) (iv6 : (0 : Int32) ≤ v6 ∧ v6 ≤ (23 : Int32)) (v7 : Int32) (iv7 : (0 : Int32) ≤ v7 ∧ v7 ≤ (4 : Int32)) (p1 : Int32) (ip1 : (0 : Int32) ≤ p1 ∧ p1 ≤ (39 : Int32)) (x0 : isL v26) (x1 : (v27 = 0 ∧ ¬ v26 = 110 ∧ ¬ v26 = 105 ∧ ¬ v26 = 100) ∨ (v27 = 1 ∧ (v26 = 110 ∨ v26 = 105 ∨ v26 = 100))) (x2 : v7 ≤ (M8.1 34 0 (p1).toNatClampNeg)) (x3 : (M8.1 26 0 40) < (300 : Int32)) (x4 : (v26 = 43 ∨ v26 = 45 ∨ v26 = 42 ∨ v26 = 37 ∨ v26 = 115) → (2 : Int32) ≤ (M8.1 26 0 38)) (x5 : ¬ v26 = 110 → ¬ v26 = 105 → (1 : Int32) ≤ (M8.1 26 0 38)) (x6 : v26 = 105 → v7 < (M8.1 34 0 (p1).toNatClampNeg)) (x7 : v26 = 37 → ¬ (M8.1 53 0 (((M8.1 26 0 38) - (1 : Int32))).toNatClampNeg) = 0) (a1 : A 26 0 38) (a2 : A 26 0 39) (a3 : A 26 0 40) (a4 : ∀ p, A 53 0 p) (a5 : ∀ p, A 54 0 p) (hF : FU ((M8.1 26 0 40)) 300 (n + 1)) : ok (f_X7_runs_J145 rc k4 v27 v26 M8 p0 v6 v7 p1) (fun r => IV A B r.1 ∧ (101 : Int32) ≤ r.2 ∧ r.2 ≤ (122 : Int32)) := by
  unfold f_X7_runs_J145
  refine ok_ite (fun q1 => ?_) (fun q1 => ?_)
  · have p2 : (0 : Int32) ≤ v26 ∧ v26 ≤ (65535 : Int32) := by
      exact ⟨by grind, by grind⟩
    have p3 : (0 : Int32) ≤ v27 ∧ v27 ≤ (1 : Int32) := by
      exact ⟨by grind, by grind⟩
    have p4 : (0 : Int32) ≤ p0 ∧ p0 ≤ (40 : Int32) := by
      exact ⟨by grind, by grind⟩
    have p5 : (0 : Int32) ≤ v6 ∧ v6 ≤ (23 : Int32) := by
      exact ⟨by grind, by grind⟩
    have p6 : (0 : Int32) ≤ v7 ∧ v7 ≤ (4 : Int32) := by
      exact ⟨by grind, by grind⟩
    have p7 : (0 : Int32) ≤ p1 ∧ p1 ≤ (39 : Int32) := by
      have c8 : (0 : Int32) ≤ (M8.1 34 0 (p1).toNatClampNeg) ∧ (M8.1 34 0 (p1).toNatClampNeg) ≤ (4 : Int32) := hM8.at1 34 0 ((p1).toNatClampNeg)
      exact ⟨by grind, by grind⟩
    have p9 : isL v26 := by
      grind
    have p10 : (v27 = 0 ∧ ¬ v26 = 110 ∧ ¬ v26 = 105 ∧ ¬ v26 = 100) ∨ (v27 = 1 ∧ (v26 = 110 ∨ v26 = 105 ∨ v26 = 100)) := by
      grind
    have p11 : v7 ≤ (M8.1 34 0 (p1).toNatClampNeg) := by
      have c12 : (0 : Int32) ≤ (M8.1 34 0 (p1).toNatClampNeg) ∧ (M8.1 34 0 (p1).toNatClampNeg) ≤ (4 : Int32) := hM8.at1 34 0 ((p1).toNatClampNeg)
      grind
    have p13 : (M8.1 26 0 40) < (300 : Int32) := by
      have c14 : (0 : Int32) ≤ (M8.1 26 0 40) ∧ (M8.1 26 0 40) ≤ (300 : Int32) := hM8.at1 26 0 40
      grind
    have p15 : (v26 = 43 ∨ v26 = 45 ∨ v26 = 42 ∨ v26 = 37 ∨ v26 = 115) → (2 : Int32) ≤ (M8.1 26 0 38) := by
      have c16 : (0 : Int32) ≤ (M8.1 26 0 38) ∧ (M8.1 26 0 38) ≤ (12 : Int32) := hM8.at1 26 0 38
      grind
    have p17 : ¬ v26 = 110 → ¬ v26 = 105 → (1 : Int32) ≤ (M8.1 26 0 38) := by
      have c18 : (0 : Int32) ≤ (M8.1 26 0 38) ∧ (M8.1 26 0 38) ≤ (12 : Int32) := hM8.at1 26 0 38
      grind
    have p19 : v26 = 105 → v7 < (M8.1 34 0 (p1).toNatClampNeg) := by
      have c20 : (0 : Int32) ≤ (M8.1 34 0 (p1).toNatClampNeg) ∧ (M8.1 34 0 (p1).toNatClampNeg) ≤ (4 : Int32) := hM8.at1 34 0 ((p1).toNatClampNeg)
      grind
    have p21 : v26 = 37 → ¬ (M8.1 53 0 (((M8.1 26 0 38) - (1 : Int32))).toNatClampNeg) = 0 := by
      have c22 : (0 : Int32) ≤ (M8.1 26 0 38) ∧ (M8.1 26 0 38) ≤ (12 : Int32) := hM8.at1 26 0 38
      grind
    have p23 : v27 = 1 → (M8.1 26 0 38) < (12 : Int32) := by
      have c24 : (0 : Int32) ≤ (M8.1 26 0 38) ∧ (M8.1 26 0 38) ≤ (12 : Int32) := hM8.at1 26 0 38
      grind
    exact s_X7_runs_J162 (n := _) rc hrc k4 hk v26 p2 M8 hM8 v27 p3 p0 p4 v6 p5 v7 p6 p1 p7 p9 p10 p11 p13 p15 p17 p19 p21 p23 (a1) (a2) (a3) (fun p => a4 p) (fun p => a5 p) hF
  · refine ok_ite (fun q25 => ?_) (fun q25 => ?_)
    · have p26 : (101 : Int32) ≤ (118 : Int32) ∧ (118 : Int32) ≤ (122 : Int32) := by
        exact ⟨by grind, by grind⟩
      exact ok_some ⟨hM8, p26⟩
    · have p27 : (0 : Int32) ≤ v26 ∧ v26 ≤ (65535 : Int32) := by
        exact ⟨by grind, by grind⟩
      have p28 : (0 : Int32) ≤ v27 ∧ v27 ≤ (1 : Int32) := by
        exact ⟨by grind, by grind⟩
      have p29 : (0 : Int32) ≤ p0 ∧ p0 ≤ (40 : Int32) := by
        exact ⟨by grind, by grind⟩
      have p30 : (0 : Int32) ≤ v6 ∧ v6 ≤ (23 : Int32) := by
        exact ⟨by grind, by grind⟩
      have p31 : (0 : Int32) ≤ v7 ∧ v7 ≤ (4 : Int32) := by
        exact ⟨by grind, by grind⟩
      have p32 : (0 : Int32) ≤ p1 ∧ p1 ≤ (39 : Int32) := by
        have c33 : (0 : Int32) ≤ (M8.1 34 0 (p1).toNatClampNeg) ∧ (M8.1 34 0 (p1).toNatClampNeg) ≤ (4 : Int32) := hM8.at1 34 0 ((p1).toNatClampNeg)
        exact ⟨by grind, by grind⟩
      have p34 : isL v26 := by
        grind
      have p35 : (v27 = 0 ∧ ¬ v26 = 110 ∧ ¬ v26 = 105 ∧ ¬ v26 = 100) ∨ (v27 = 1 ∧ (v26 = 110 ∨ v26 = 105 ∨ v26 = 100)) := by
        grind
      have p36 : v7 ≤ (M8.1 34 0 (p1).toNatClampNeg) := by
        have c37 : (0 : Int32) ≤ (M8.1 34 0 (p1).toNatClampNeg) ∧ (M8.1 34 0 (p1).toNatClampNeg) ≤ (4 : Int32) := hM8.at1 34 0 ((p1).toNatClampNeg)
        grind
      have p38 : (M8.1 26 0 40) < (300 : Int32) := by
        have c39 : (0 : Int32) ≤ (M8.1 26 0 40) ∧ (M8.1 26 0 40) ≤ (300 : Int32) := hM8.at1 26 0 40
        grind
      have p40 : (v26 = 43 ∨ v26 = 45 ∨ v26 = 42 ∨ v26 = 37 ∨ v26 = 115) → (2 : Int32) ≤ (M8.1 26 0 38) := by
        have c41 : (0 : Int32) ≤ (M8.1 26 0 38) ∧ (M8.1 26 0 38) ≤ (12 : Int32) := hM8.at1 26 0 38
        grind
      have p42 : ¬ v26 = 110 → ¬ v26 = 105 → (1 : Int32) ≤ (M8.1 26 0 38) := by
        have c43 : (0 : Int32) ≤ (M8.1 26 0 38) ∧ (M8.1 26 0 38) ≤ (12 : Int32) := hM8.at1 26 0 38
        grind
      have p44 : v26 = 105 → v7 < (M8.1 34 0 (p1).toNatClampNeg) := by
        have c45 : (0 : Int32) ≤ (M8.1 34 0 (p1).toNatClampNeg) ∧ (M8.1 34 0 (p1).toNatClampNeg) ≤ (4 : Int32) := hM8.at1 34 0 ((p1).toNatClampNeg)
        grind
      have p46 : v26 = 37 → ¬ (M8.1 53 0 (((M8.1 26 0 38) - (1 : Int32))).toNatClampNeg) = 0 := by
        have c47 : (0 : Int32) ≤ (M8.1 26 0 38) ∧ (M8.1 26 0 38) ≤ (12 : Int32) := hM8.at1 26 0 38
        grind
      have p48 : v27 = 1 → (M8.1 26 0 38) < (12 : Int32) := by
        have c49 : (0 : Int32) ≤ (M8.1 26 0 38) ∧ (M8.1 26 0 38) ≤ (12 : Int32) := hM8.at1 26 0 38
        grind
      exact s_X7_runs_J162 (n := _) rc hrc k4 hk v26 p27 M8 hM8 v27 p28 p0 p29 v6 p30 v7 p31 p1 p32 p34 p35 p36 p38 p40 p42 p44 p46 p48 (a1) (a2) (a3) (fun p => a4 p) (fun p => a5 p) hF