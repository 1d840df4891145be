theorem s_X7_open_J77 {A : Nat → Nat → Nat → Prop} {B : SS} {n : Nat} (rc : Int32 → Int32 → (Int32 → Option (SS × Int32)) → Option (SS × Int32)) (hrc : ∀ (v9 : Int32) (v10 : Int32) (k7 : (Int32 → Option (SS × Int32))), (FU v9 40 n) → ((0 : Int32) ≤ v9 ∧ v9 ≤ (40 : Int32)) → (∀ (k_0 : Int32), ok (k7 k_0) (fun r => IV A B r.1 ∧ True)) → ok (rc v9 v10 k7) (fun r => IV A B r.1 ∧ True)) (k7 : Int32 → Option (SS × Int32)) (hk : ∀ (k_0 : Int32), ok (k7 k_0) (fun r => IV A B r.1 ∧ True)) (v9 : Int32) (iv9 : (0 : Int32) ≤ v9 ∧ v9 ≤ (39 : Int32)) (M : SS) (hM : IV A B M) (v10 : Int32) (v20 : Int32) (iv20 : (0 : Int32) ≤ v20 ∧ v20 ≤ (1 : Int32)) (hF : FU v9 40 (n + 1)) : ok (f_X7_open_J77 rc k7 v9 M v10 v20) (fun r => IV A B r.1 ∧ True) := by
  unfold f_X7_open_J77
  refine ok_gd ?_ (fun g1 => ?_)
  · exact vp_of (by decide) (by grind) (show v9 < (40 : Int32) by grind)
  have g1 := vp_to (by decide) g1
  have g1 : (0 : Int32) ≤ v9 ∧ v9 < (40 : Int32) := g1
  refine ok_ite (fun q2 => ?_) (fun q2 => ?_)
  · refine ok_ite (fun q3 => ?_) (fun q3 => ?_)
    · refine ok_lq (fun v26 e4 => ?_)
      have p5 : FU (v9 + (1 : Int32)) 40 _ := by
        have c6 : (0 : Int32) ≤ (M.1 42 0 (v9).toNatClampNeg) ∧ (M.1 42 0 (v9).toNatClampNeg) ≤ (65535 : Int32) := hM.at1 42 0 ((v9).toNatClampNeg)
        exact FU.step hF (by grind)
      have p7 : (0 : Int32) ≤ (v9 + (1 : Int32)) ∧ (v9 + (1 : Int32)) ≤ (40 : Int32) := by
        have c8 : (0 : Int32) ≤ (M.1 42 0 (v9).toNatClampNeg) ∧ (M.1 42 0 (v9).toNatClampNeg) ≤ (65535 : Int32) := hM.at1 42 0 ((v9).toNatClampNeg)
        exact ⟨by grind, by grind⟩
      exact hrc (v9 + (1 : Int32)) v26 k7 p5 p7 hk
    · refine ok_lq (fun v27 e9 => ?_)
      have p10 : FU (v9 + (1 : Int32)) 40 _ := by
        have c11 : (0 : Int32) ≤ (M.1 42 0 (v9).toNatClampNeg) ∧ (M.1 42 0 (v9).toNatClampNeg) ≤ (65535 : Int32) := hM.at1 42 0 ((v9).toNatClampNeg)
        exact FU.step hF (by grind)
      have p12 : (0 : Int32) ≤ (v9 + (1 : Int32)) ∧ (v9 + (1 : Int32)) ≤ (40 : Int32) := by
        have c13 : (0 : Int32) ≤ (M.1 42 0 (v9).toNatClampNeg) ∧ (M.1 42 0 (v9).toNatClampNeg) ≤ (65535 : Int32) := hM.at1 42 0 ((v9).toNatClampNeg)
        exact ⟨by grind, by grind⟩
      exact hrc (v9 + (1 : Int32)) v27 k7 p10 p12 hk
  · refine ok_lq (fun v24 e14 => ?_)
    have p15 : FU (v9 + (1 : Int32)) 40 _ := by
      have c16 : (0 : Int32) ≤ (M.1 42 0 (v9).toNatClampNeg) ∧ (M.1 42 0 (v9).toNatClampNeg) ≤ (65535 : Int32) := hM.at1 42 0 ((v9).toNatClampNeg)
      exact FU.step hF (by grind)
    have p17 : (0 : Int32) ≤ (v9 + (1 : Int32)) ∧ (v9 + (1 : Int32)) ≤ (40 : Int32) := by
      have c18 : (0 : Int32) ≤ (M.1 42 0 (v9).toNatClampNeg) ∧ (M.1 42 0 (v9).toNatClampNeg) ≤ (65535 : Int32) := hM.at1 42 0 ((v9).toNatClampNeg)
      exact ⟨by grind, by grind⟩
    exact hrc (v9 + (1 : Int32)) v24 k7 p15 p17 hk
theorem s_X7_open_J72 {A : Nat → Nat → Nat → Prop} {B : SS} {n : Nat} (rc : Int32 → Int32 → (Int32 → Option (SS × Int32)) → Option (SS × Int32)) (hrc : ∀ (v9 : Int32) (v10 : Int32) (k7 : (Int32 → Option (SS × Int32))), (FU v9 40 n) → ((0 : Int32) ≤ v9 ∧ v9 ≤ (40 : Int32)) → (∀ (k_0 : Int32), ok (k7 k_0) (fun r => IV A B r.1 ∧ True)) → ok (rc v9 v10 k7) (fun r => IV A B r.1 ∧ True)) (k7 : Int32 → Option (SS × Int32)) (hk : ∀ (k_0 : Int32), ok (k7 k_0) (fun r => IV A B r.1 ∧ True)) (v9 : Int32) (iv9 : (0 : Int32) ≤ v9 ∧ v9 ≤ (39 : Int32)) (M : SS) (hM : IV A B M) (v10 : Int32) (hF : FU v9 40 (n + 1)) : ok (f_X7_open_J72 rc k7 v9 M v10) (fun r => IV A B r.1 ∧ True) := by
  unfold f_X7_open_J72
  have p1 : (0 : Int32) ≤ v9 ∧ v9 ≤ (39 : Int32) := by
    exact ⟨by grind, by grind⟩
  exact s_X7_open_J77 (n := _) rc hrc k7 hk v9 p1 M hM v10 (1 : Int32) ⟨by decide, by decide⟩ hF
theorem s_X7_open_J76 {A : Nat → Nat → Nat → Prop} {B : SS} {n : Nat} (rc : Int32 → Int32 → (Int32 → Option (SS × Int32)) → Option (SS × Int32)) (hrc : ∀ (v9 : Int32) (v10 : Int32) (k7 : (Int32 → Option (SS × Int32))), (FU v9 40 n) → ((0 : Int32) ≤ v9 ∧ v9 ≤ (40 : Int32)) → (∀ (k_0 : Int32), ok (k7 k_0) (fun r => IV A B r.1 ∧ True)) → ok (rc v9 v10 k7) (fun r => IV A B r.1 ∧ True)) (k7 : Int32 → Option (SS × Int32)) (hk : ∀ (k_0 : Int32), ok (k7 k_0) (fun r => IV A B r.1 ∧ True)) (v9 : Int32) (iv9 : (0 : Int32) ≤ v9 ∧ v9 ≤ (39 : Int32)) (M : SS) (hM : IV A B M) (v10 : Int32) (hF : FU v9 40 (n + 1)) : ok (f_X7_open_J76 rc k7 v9 M v10) (fun r => IV A B r.1 ∧ True) := by
  unfold f_X7_open_J76
  have p1 : (0 : Int32) ≤ v9 ∧ v9 ≤ (39 : Int32) := by
    exact ⟨by grind, by grind⟩
  exact s_X7_open_J77 (n := _) rc hrc k7 hk v9 p1 M hM v10 (0 : Int32) ⟨by decide, by decide⟩ hF
theorem s_X7_open_L15 {A : Nat → Nat → Nat → Prop} {B : SS} (M : SS) (hM : IV A B M) (v2 : Int32) (iv2 : (0 : Int32) ≤ v2 ∧ v2 ≤ (39 : Int32)) : ∀ (n : Nat), ∀ (v9 : Int32) (v10 : Int32) (k7 : (Int32 → Option (SS × Int32))), (FU v9 40 n) → ((0 : Int32) ≤ v9 ∧ v9 ≤ (40 : Int32)) → (∀ (k_0 : Int32), ok (k7 k_0) (fun r => IV A B r.1 ∧ True)) → ok (f_X7_open_L15 M v2 n v9 v10 k7) (fun r => IV A B r.1 ∧ True) := by
  intro n
  induction n with
  | zero =>
    intro v9 v10 k7 hF iv9 hk
    exact (FU.stop hF (show v9 ≤ (40 : Int32) by grind)).elim
  | succ n ih =>
    intro v9 v10 k7 hF iv9 hk
    rw [f_X7_open_L15]
    refine ok_ite (fun q1 => ?_) (fun q1 => ?_)
    · exact hk v10
    · refine ok_gd ?_ (fun g2 => ?_)
      · have c3 : (0 : Int32) ≤ (M.1 26 0 5) ∧ (M.1 26 0 5) ≤ (40 : Int32) := hM.at1 26 0 5
        exact vp_of (by decide) (by grind) (show v9 < (40 : Int32) by grind)
      have g2 := vp_to (by decide) g2
      have g2 : (0 : Int32) ≤ v9 ∧ v9 < (40 : Int32) := g2
      refine ok_gd ?_ (fun g4 => ?_)
      · exact vp_of (by decide) (by grind) (show v2 < (40 : Int32) by grind)
      have g4 := vp_to (by decide) g4
      have g4 : (0 : Int32) ≤ v2 ∧ v2 < (40 : Int32) := g4
      refine ok_ite (fun q5 => ?_) (fun q5 => ?_)
      · have p6 : (0 : Int32) ≤ v9 ∧ v9 ≤ (39 : Int32) := by
          have c7 : (0 : Int32) ≤ (M.1 26 0 5) ∧ (M.1 26 0 5) ≤ (40 : Int32) := hM.at1 26 0 5
          exact ⟨by grind, by grind⟩
        exact s_X7_open_J72 (n := _) (f_X7_open_L15 M v2 n) ih k7 hk v9 p6 M hM v10 hF
      · refine ok_gd ?_ (fun g8 => ?_)
        · have c9 : (0 : Int32) ≤ (M.1 26 0 5) ∧ (M.1 26 0 5) ≤ (40 : Int32) := hM.at1 26 0 5
          exact vp_of (by decide) (by grind) (show v9 < (40 : Int32) by grind)
        have g8 := vp_to (by decide) g8
        have g8 : (0 : Int32) ≤ v9 ∧ v9 < (40 : Int32) := g8
        refine ok_gd ?_ (fun g10 => ?_)
        · have c11 : (0 : Int32) ≤ (M.1 26 0 5) ∧ (M.1 26 0 5) ≤ (40 : Int32) := hM.at1 26 0 5
          exact vp_of (by decide) (by grind) (show v2 < (40 : Int32) by grind)
        have g10 := vp_to (by decide) g10
        have g10 : (0 : Int32) ≤ v2 ∧ v2 < (40 : Int32) := g10
        refine ok_ite (fun q12 => ?_) (fun q12 => ?_)
        · refine ok_gd ?_ (fun g13 => ?_)
          · have c14 : (0 : Int32) ≤ (M.1 26 0 5) ∧ (M.1 26 0 5) ≤ (40 : Int32) := hM.at1 26 0 5
            exact vp_of (by decide) (by grind) (show v9 < (40 : Int32) by grind)
          have g13 := vp_to (by decide) g13
          have g13 : (0 : Int32) ≤ v9 ∧ v9 < (40 : Int32) := g13
          refine ok_gd ?_ (fun g15 => ?_)
          · have c16 : (0 : Int32) ≤ (M.1 26 0 5) ∧ (M.1 26 0 5) ≤ (40 : Int32) := hM.at1 26 0 5
            exact vp_of (by decide) (by grind) (show v2 < (40 : Int32) by grind)
          have g15 := vp_to (by decide) g15
          have g15 : (0 : Int32) ≤ v2 ∧ v2 < (40 : Int32) := g15
          refine ok_ite (fun q17 => ?_) (fun q17 => ?_)
          · have p18 : (0 : Int32) ≤ v9 ∧ v9 ≤ (39 : Int32) := by
              have c19 : (0 : Int32) ≤ (M.1 26 0 5) ∧ (M.1 26 0 5) ≤ (40 : Int32) := hM.at1 26 0 5
              exact ⟨by grind, by grind⟩
            exact s_X7_open_J76 (n := _) (f_X7_open_L15 M v2 n) ih k7 hk v9 p18 M hM v10 hF
          · have p20 : (0 : Int32) ≤ v9 ∧ v9 ≤ (39 : Int32) := by
              have c21 : (0 : Int32) ≤ (M.1 26 0 5) ∧ (M.1 26 0 5) ≤ (40 : Int32) := hM.at1 26 0 5
              exact ⟨by grind, by grind⟩
            exact s_X7_open_J72 (n := _) (f_X7_open_L15 M v2 n) ih k7 hk v9 p20 M hM v10 hF
        · have p22 : (0 : Int32) ≤ v9 ∧ v9 ≤ (39 : Int32) := by
            have c23 : (0 : Int32) ≤ (M.1 26 0 5) ∧ (M.1 26 0 5) ≤ (40 : Int32) := hM.at1 26 0 5
            exact ⟨by grind, by grind⟩
          exact s_X7_open_J76 (n := _) (f_X7_open_L15 M v2 n) ih k7 hk v9 p22 M hM v10 hF
theorem s_X7_open_L2 {A : Nat → Nat → Nat → Prop} {B : SS} (M : SS) (hM : IV A B M) (p0 : Int32) (a1 : A 26 0 9) : ∀ (n : Nat), ∀ (v2 : Int32) (k1 : (Unit → Option (SS × Int32))), (FU v2 40 n) → ((0 : Int32) ≤ v2 ∧ v2 ≤ (40 : Int32)) → (∀ (k_0 : Unit), ok (k1 k_0) (fun r => IV A B r.1 ∧ True)) → ok (f_X7_open_L2 M p0 n v2 k1) (fun r => IV A B r.1 ∧ True) := by
  intro n
  induction n with
  | zero =>
    intro v2 k1 hF iv2 hk
    exact (FU.stop hF (show v2 ≤ (40 : Int32) by grind)).elim
  | succ n ih =>
    intro v2 k1 hF iv2 hk
    rw [f_X7_open_L2]
    refine ok_ite (fun q1 => ?_) (fun q1 => ?_)
    · exact hk ()
    · have p2 : (0 : Int32) ≤ v2 ∧ v2 ≤ (39 : Int32) := by
        have c3 : (0 : Int32) ≤ (M.1 26 0 5) ∧ (M.1 26 0 5) ≤ (40 : Int32) := hM.at1 26 0 5
        exact ⟨by grind, by grind⟩
      have p4 : FU (0 : Int32) 40 1000 := by
        exact FU.start (by grind) (by decide)
      refine s_X7_open_L15 M hM v2 p2 1000 (0 : Int32) (0 : Int32) _ p4 ⟨by decide, by decide⟩ (fun v8 => ?_)
      refine ok_gd ?_ (fun g5 => ?_)
      · have c6 : (0 : Int32) ≤ (M.1 26 0 5) ∧ (M.1 26 0 5) ≤ (40 : Int32) := hM.at1 26 0 5
        exact vp_of (by decide) (by grind) (show v2 < (40 : Int32) by grind)
      have g5 := vp_to (by decide) g5
      have g5 : (0 : Int32) ≤ v2 ∧ v2 < (40 : Int32) := g5
      refine ok_ite (fun q7 => ?_) (fun q7 => ?_)
      · refine ok_ite (fun q8 => ?_) (fun q8 => ?_)
        · refine ok_b1 (s_X7_tells M hM v2 (a1)) (fun M15 v14 w9 => ?_)
          have hM15 : IV A B M15 := w9.1
          exact ok_some ⟨hM15, trivial⟩
        · have p10 : FU (v2 + (1 : Int32)) 40 _ := by
            have c11 : (0 : Int32) ≤ (M.1 26 0 5) ∧ (M.1 26 0 5) ≤ (40 : Int32) := hM.at1 26 0 5
            have c12 : (0 : Int32) ≤ (M.1 42 0 (v2).toNatClampNeg) ∧ (M.1 42 0 (v2).toNatClampNeg) ≤ (65535 : Int32) := hM.at1 42 0 ((v2).toNatClampNeg)
            exact FU.step hF (by grind)
          have p13 : (0 : Int32) ≤ (v2 + (1 : Int32)) ∧ (v2 + (1 : Int32)) ≤ (40 : Int32) := by
            have c14 : (0 : Int32) ≤ (M.1 26 0 5) ∧ (M.1 26 0 5) ≤ (40 : Int32) := hM.at1 26 0 5
            have c15 : (0 : Int32) ≤ (M.1 42 0 (v2).toNatClampNeg) ∧ (M.1 42 0 (v2).toNatClampNeg) ≤ (65535 : Int32) := hM.at1 42 0 ((v2).toNatClampNeg)
            exact ⟨by grind, by grind⟩
          exact ih (v2 + (1 : Int32)) k1 p10 p13 hk
      · have p16 : FU (v2 + (1 : Int32)) 40 _ := by
          have c17 : (0 : Int32) ≤ (M.1 26 0 5) ∧ (M.1 26 0 5) ≤ (40 : Int32) := hM.at1 26 0 5
          have c18 : (0 : Int32) ≤ (M.1 42 0 (v2).toNatClampNeg) ∧ (M.1 42 0 (v2).toNatClampNeg) ≤ (65535 : Int32) := hM.at1 42 0 ((v2).toNatClampNeg)
          exact FU.step hF (by grind)
        have p19 : (0 : Int32) ≤ (v2 + (1 : Int32)) ∧ (v2 + (1 : Int32)) ≤ (40 : Int32) := by
          have c20 : (0 : Int32) ≤ (M.1 26 0 5) ∧ (M.1 26 0 5) ≤ (40 : Int32) := hM.at1 26 0 5
          have c21 : (0 : Int32) ≤ (M.1 42 0 (v2).toNatClampNeg) ∧ (M.1 42 0 (v2).toNatClampNeg) ≤ (65535 : Int32) := hM.at1 42 0 ((v2).toNatClampNeg)
          exact ⟨by grind, by grind⟩
        exact ih (v2 + (1 : Int32)) k1 p16 p19 hk
theorem s_X7_open {A : Nat → Nat → Nat → Prop} {B : SS} (M : SS) (hM : IV A B M) (p0 : Int32) (a1 : A 26 0 9) : ok (f_X7_open M p0) (fun r => IV A B r.1 ∧ True) := by
  unfold f_X7_open
  have p1 : FU (0 : Int32) 40 1000 := by
    exact FU.start (by grind) (by decide)
  refine s_X7_open_L2 M hM p0 (a1) 1000 (0 : Int32) _ p1 ⟨by decide, by decide⟩ (fun _ => ?_)
  refine ok_b1 (s_X7_fails M hM (1 : Int32) ⟨by decide, by decide⟩ (a1)) (fun M4 v3 w2 => ?_)
  have hM4 : IV A B M4 := w2.1
  have w3 : (0 : Int32) ≤ v3 ∧ v3 ≤ (0 : Int32) := w2.2
  exact ok_some ⟨hM4, trivial⟩
theorem s_X7_left {A : Nat → Nat → Nat → Prop} {B : SS} (M : SS) (hM : IV A B M) (p0 : Int32) (a1 : A 26 0 9) : ok (f_X7_left M p0) (fun r => IV A B r.1 ∧ True) := by
  unfold f_X7_left
  refine ok_b0 (s_X7_isWork M hM p0) (fun v1 w1 => ?_)
  have w2 : (0 : Int32) ≤ v1 ∧ v1 ≤ (1 : Int32) ∧ ((v1 = 0 ∧ (p0 < 0 ∨ (M.1 26 0 5) ≤ p0)) ∨ (v1 = 1 ∧ 0 ≤ p0 ∧ p0 < (M.1 26 0 5))) := w1
  refine ok_ite (fun q3 => ?_) (fun q3 => ?_)
  · refine ok_b1 (s_X7_fails M hM (1 : Int32) ⟨by decide, by decide⟩ (a1)) (fun M14 v13 w4 => ?_)
    have hM14 : IV A B M14 := w4.1
    have w5 : (0 : Int32) ≤ v13 ∧ v13 ≤ (0 : Int32) := w4.2
    exact ok_some ⟨hM14, trivial⟩
  · refine ok_gd ?_ (fun g6 => ?_)
    · exact vp_of (by decide) (by grind) (show p0 < (40 : Int32) by grind)
    have g6 := vp_to (by decide) g6
    have g6 : (0 : Int32) ≤ p0 ∧ p0 < (40 : Int32) := g6
    refine ok_ite (fun q7 => ?_) (fun q7 => ?_)
    · refine ok_gd ?_ (fun g8 => ?_)
      · have c9 : (0 : Int32) ≤ (M.1 42 0 (p0).toNatClampNeg) ∧ (M.1 42 0 (p0).toNatClampNeg) ≤ (65535 : Int32) := hM.at1 42 0 ((p0).toNatClampNeg)
        exact vp_of (by decide) (by grind) (show p0 < (40 : Int32) by grind)
      have g8 := vp_to (by decide) g8
      have g8 : (0 : Int32) ≤ p0 ∧ p0 < (40 : Int32) := g8
      refine ok_b1 (s_X7_tells M hM (M.1 49 0 (p0).toNatClampNeg) (a1)) (fun M11 v10 w10 => ?_)
      have hM11 : IV A B M11 := w10.1
      exact ok_some ⟨hM11, trivial⟩
    · refine ok_b1 (s_X7_fails M hM (2 : Int32) ⟨by decide, by decide⟩ (a1)) (fun M7 v6 w11 => ?_)
      have hM7 : IV A B M7 := w11.1
      have w12 : (0 : Int32) ≤ v6 ∧ v6 ≤ (0 : Int32) := w11.2
      exact ok_some ⟨hM7, trivial⟩
theorem s_X7_days_L20 {A : Nat → Nat → Nat → Prop} {B : SS} (p0 : Int32) (ip0 : (1 : Int32) ≤ p0 ∧ p0 ≤ (30 : Int32)) (a1 : ∀ p, A 42 0 p) (a2 : ∀ p, A 49 0 p) (a3 : ∀ p, A 51 0 p) : ∀ (n : Nat), ∀ (v7 : Int32) (v8 : Int32) (M9 : SS) (k4 : (Int32 → SS → Option (SS × Int32))), (FU v7 40 n) → ((0 : Int32) ≤ v7 ∧ v7 ≤ (40 : Int32)) → (IV A B M9) → (∀ (k_0 : Int32) (k_1 : SS), (IV A B k_1) → ok (k4 k_0 k_1) (fun r => IV A B r.1 ∧ True)) → ok (f_X7_days_L20 p0 n v7 v8 M9 k4) (fun r => IV A B r.1 ∧ True) := by
  intro n
  induction n with
  | zero =>
    intro v7 v8 M9 k4 hF iv7 hM9 hk
    exact (FU.stop hF (show v7 ≤ (40 : Int32) by grind)).elim
  | succ n ih =>
    intro v7 v8 M9 k4 hF iv7 hM9 hk
    rw [f_X7_days_L20]
    refine ok_ite (fun q1 => ?_) (fun q1 => ?_)
    · exact hk v8 M9 hM9
    · refine ok_gd ?_ (fun g2 => ?_)
      · have c3 : (0 : Int32) ≤ (M9.1 26 0 5) ∧ (M9.1 26 0 5) ≤ (40 : Int32) := hM9.at1 26 0 5
        exact vp_of (by decide) (by grind) (show v7 < (40 : Int32) by grind)
      have g2 := vp_to (by decide) g2
      have g2 : (0 : Int32) ≤ v7 ∧ v7 < (40 : Int32) := g2
      refine ok_gd ?_ (fun g4 => ?_)
      · have c5 : (0 : Int32) ≤ (M9.1 26 0 5) ∧ (M9.1 26 0 5) ≤ (40 : Int32) := hM9.at1 26 0 5
        exact vp_of (by decide) (by grind) (show v7 < (40 : Int32) by grind)
      have g4 := vp_to (by decide) g4
      have g4 : (0 : Int32) ≤ v7 ∧ v7 < (40 : Int32) := g4
      refine ok_lq (fun M16 e6 => ?_)
      have hM16 : IV A B M16 := by rw [e6]; exact hM9.u1f rfl (a2 ((v7).toNatClampNeg)) rfl
      refine ok_gd ?_ (fun g7 => ?_)
      · have c8 : (0 : Int32) ≤ (M9.1 26 0 5) ∧ (M9.1 26 0 5) ≤ (40 : Int32) := hM9.at1 26 0 5
        exact vp_of (by decide) (by grind) (show v7 < (40 : Int32) by grind)
      have g7 := vp_to (by decide) g7
      have g7 : (0 : Int32) ≤ v7 ∧ v7 < (40 : Int32) := g7
      refine ok_ite (fun q9 => ?_) (fun q9 => ?_)
      · refine ok_gd ?_ (fun g10 => ?_)
        · have c11 : (0 : Int32) ≤ (M9.1 26 0 5) ∧ (M9.1 26 0 5) ≤ (40 : Int32) := hM9.at1 26 0 5
          have c12 : (0 : Int32) ≤ (M16.1 42 0 (v7).toNatClampNeg) ∧ (M16.1 42 0 (v7).toNatClampNeg) ≤ (65535 : Int32) := hM16.at1 42 0 ((v7).toNatClampNeg)
          have c13 : (M16.1 42 0 (v7).toNatClampNeg) = (M9.1 42 0 (v7).toNatClampNeg) := by rw [e6]; exact up_k (by decide)
          have c14 : (0 : Int32) ≤ (M9.1 42 0 (v7).toNatClampNeg) ∧ (M9.1 42 0 (v7).toNatClampNeg) ≤ (65535 : Int32) := hM9.at1 42 0 ((v7).toNatClampNeg)
          exact vp_of (by decide) (by grind) (show v7 < (40 : Int32) by grind)
        have g10 := vp_to (by decide) g10
        have g10 : (0 : Int32) ≤ v7 ∧ v7 < (40 : Int32) := g10
        refine ok_ite (fun q15 => ?_) (fun q15 => ?_)
        · have p16 : FU (v7 + (1 : Int32)) 40 _ := by
            have c17 : (0 : Int32) ≤ (M9.1 26 0 5) ∧ (M9.1 26 0 5) ≤ (40 : Int32) := hM9.at1 26 0 5
            have c18 : (0 : Int32) ≤ (M16.1 42 0 (v7).toNatClampNeg) ∧ (M16.1 42 0 (v7).toNatClampNeg) ≤ (65535 : Int32) := hM16.at1 42 0 ((v7).toNatClampNeg)
            have c19 : (M16.1 42 0 (v7).toNatClampNeg) = (M9.1 42 0 (v7).toNatClampNeg) := by rw [e6]; exact up_k (by decide)
            have c20 : (M16.1 49 0 (v7).toNatClampNeg) = ((M9.1 49 0 (v7).toNatClampNeg) - p0) := by rw [e6]; exact up_s
            have c21 : (0 : Int32) ≤ (M9.1 42 0 (v7).toNatClampNeg) ∧ (M9.1 42 0 (v7).toNatClampNeg) ≤ (65535 : Int32) := hM9.at1 42 0 ((v7).toNatClampNeg)
            exact FU.step hF (by grind)
          have p22 : (0 : Int32) ≤ (v7 + (1 : Int32)) ∧ (v7 + (1 : Int32)) ≤ (40 : Int32) := by
            have c23 : (0 : Int32) ≤ (M9.1 26 0 5) ∧ (M9.1 26 0 5) ≤ (40 : Int32) := hM9.at1 26 0 5
            have c24 : (0 : Int32) ≤ (M16.1 42 0 (v7).toNatClampNeg) ∧ (M16.1 42 0 (v7).toNatClampNeg) ≤ (65535 : Int32) := hM16.at1 42 0 ((v7).toNatClampNeg)
            have c25 : (M16.1 42 0 (v7).toNatClampNeg) = (M9.1 42 0 (v7).toNatClampNeg) := by rw [e6]; exact up_k (by decide)
            have c26 : (M16.1 49 0 (v7).toNatClampNeg) = ((M9.1 49 0 (v7).toNatClampNeg) - p0) := by rw [e6]; exact up_s
            have c27 : (0 : Int32) ≤ (M9.1 42 0 (v7).toNatClampNeg) ∧ (M9.1 42 0 (v7).toNatClampNeg) ≤ (65535 : Int32) := hM9.at1 42 0 ((v7).toNatClampNeg)
            exact ⟨by grind, by grind⟩
          exact ih (v7 + (1 : Int32)) v8 M16 k4 p16 p22 hM16 hk
        · refine ok_gd ?_ (fun g28 => ?_)
          · have c29 : (0 : Int32) ≤ (M9.1 26 0 5) ∧ (M9.1 26 0 5) ≤ (40 : Int32) := hM9.at1 26 0 5
            have c30 : (0 : Int32) ≤ (M16.1 42 0 (v7).toNatClampNeg) ∧ (M16.1 42 0 (v7).toNatClampNeg) ≤ (65535 : Int32) := hM16.at1 42 0 ((v7).toNatClampNeg)
            have c31 : (M16.1 42 0 (v7).toNatClampNeg) = (M9.1 42 0 (v7).toNatClampNeg) := by rw [e6]; exact up_k (by decide)
            have c32 : (M16.1 49 0 (v7).toNatClampNeg) = ((M9.1 49 0 (v7).toNatClampNeg) - p0) := by rw [e6]; exact up_s
            have c33 : (0 : Int32) ≤ (M9.1 42 0 (v7).toNatClampNeg) ∧ (M9.1 42 0 (v7).toNatClampNeg) ≤ (65535 : Int32) := hM9.at1 42 0 ((v7).toNatClampNeg)
            exact vp_of (by decide) (by grind) (show v7 < (40 : Int32) by grind)
          have g28 := vp_to (by decide) g28
          have g28 : (0 : Int32) ≤ v7 ∧ v7 < (40 : Int32) := g28
          refine ok_lq (fun M22 e34 => ?_)
          have p35 : (0 : Int32) ≤ (vp_nar .char (98 : Int32)) ∧ (vp_nar .char (98 : Int32)) ≤ (65535 : Int32) := by
            have c36 : (0 : Int32) ≤ (vp_nar .char (98 : Int32)) ∧ (vp_nar .char (98 : Int32)) ≤ (65535 : Int32) := nar_c _
            exact ⟨by grind, by grind⟩
          have hM22 : IV A B M22 := by rw [e34]; exact hM16.u1 rfl (a1 ((v7).toNatClampNeg)) p35
          refine ok_gd ?_ (fun g37 => ?_)
          · have c38 : (0 : Int32) ≤ (M9.1 26 0 5) ∧ (M9.1 26 0 5) ≤ (40 : Int32) := hM9.at1 26 0 5
            have c39 : (0 : Int32) ≤ (M16.1 42 0 (v7).toNatClampNeg) ∧ (M16.1 42 0 (v7).toNatClampNeg) ≤ (65535 : Int32) := hM16.at1 42 0 ((v7).toNatClampNeg)
            have c40 : (M16.1 42 0 (v7).toNatClampNeg) = (M9.1 42 0 (v7).toNatClampNeg) := by rw [e6]; exact up_k (by decide)
            have c41 : (M16.1 49 0 (v7).toNatClampNeg) = ((M9.1 49 0 (v7).toNatClampNeg) - p0) := by rw [e6]; exact up_s
            have c42 : (0 : Int32) ≤ (M9.1 42 0 (v7).toNatClampNeg) ∧ (M9.1 42 0 (v7).toNatClampNeg) ≤ (65535 : Int32) := hM9.at1 42 0 ((v7).toNatClampNeg)
            exact vp_of (by decide) (by grind) (show v7 < (40 : Int32) by grind)
          have g37 := vp_to (by decide) g37
          have g37 : (0 : Int32) ≤ v7 ∧ v7 < (40 : Int32) := g37
          refine ok_gd ?_ (fun g43 => ?_)
          · have c44 : (0 : Int32) ≤ (vp_nar .char (98 : Int32)) ∧ (vp_nar .char (98 : Int32)) ≤ (65535 : Int32) := nar_c _
            have c45 : (0 : Int32) ≤ (M22.1 48 0 (v7).toNatClampNeg) ∧ (M22.1 48 0 (v7).toNatClampNeg) ≤ (9 : Int32) := hM22.at1 48 0 ((v7).toNatClampNeg)
            have c46 : (M22.1 48 0 (v7).toNatClampNeg) = (M16.1 48 0 (v7).toNatClampNeg) := by rw [e34]; exact up_k (by decide)
            have c47 : (0 : Int32) ≤ (M9.1 26 0 5) ∧ (M9.1 26 0 5) ≤ (40 : Int32) := hM9.at1 26 0 5
            have c48 : (0 : Int32) ≤ (M16.1 42 0 (v7).toNatClampNeg) ∧ (M16.1 42 0 (v7).toNatClampNeg) ≤ (65535 : Int32) := hM16.at1 42 0 ((v7).toNatClampNeg)
            have c49 : (M16.1 42 0 (v7).toNatClampNeg) = (M9.1 42 0 (v7).toNatClampNeg) := by rw [e6]; exact up_k (by decide)
            have c50 : (M16.1 49 0 (v7).toNatClampNeg) = ((M9.1 49 0 (v7).toNatClampNeg) - p0) := by rw [e6]; exact up_s
            have c51 : (0 : Int32) ≤ (M16.1 48 0 (v7).toNatClampNeg) ∧ (M16.1 48 0 (v7).toNatClampNeg) ≤ (9 : Int32) := hM16.at1 48 0 ((v7).toNatClampNeg)
            have c52 : (M16.1 48 0 (v7).toNatClampNeg) = (M9.1 48 0 (v7).toNatClampNeg) := by rw [e6]; exact up_k (by decide)
            have c53 : (0 : Int32) ≤ (M9.1 42 0 (v7).toNatClampNeg) ∧ (M9.1 42 0 (v7).toNatClampNeg) ≤ (65535 : Int32) := hM9.at1 42 0 ((v7).toNatClampNeg)
            have c54 : (0 : Int32) ≤ (M9.1 48 0 (v7).toNatClampNeg) ∧ (M9.1 48 0 (v7).toNatClampNeg) ≤ (9 : Int32) := hM9.at1 48 0 ((v7).toNatClampNeg)
            exact vp_of (by decide) (by grind) (show (M22.1 48 0 (v7).toNatClampNeg) < (10 : Int32) by grind)
          have g43 := vp_to (by decide) g43
          have g43 : (0 : Int32) ≤ (M22.1 48 0 (v7).toNatClampNeg) ∧ (M22.1 48 0 (v7).toNatClampNeg) < (10 : Int32) := g43
          refine ok_gd ?_ (fun g55 => ?_)
          · have c56 : (0 : Int32) ≤ (vp_nar .char (98 : Int32)) ∧ (vp_nar .char (98 : Int32)) ≤ (65535 : Int32) := nar_c _
            have c57 : (0 : Int32) ≤ (M22.1 48 0 (v7).toNatClampNeg) ∧ (M22.1 48 0 (v7).toNatClampNeg) ≤ (9 : Int32) := hM22.at1 48 0 ((v7).toNatClampNeg)
            have c58 : (M22.1 48 0 (v7).toNatClampNeg) = (M16.1 48 0 (v7).toNatClampNeg) := by rw [e34]; exact up_k (by decide)
            have c59 : (0 : Int32) ≤ (M9.1 26 0 5) ∧ (M9.1 26 0 5) ≤ (40 : Int32) := hM9.at1 26 0 5
            have c60 : (0 : Int32) ≤ (M16.1 42 0 (v7).toNatClampNeg) ∧ (M16.1 42 0 (v7).toNatClampNeg) ≤ (65535 : Int32) := hM16.at1 42 0 ((v7).toNatClampNeg)
            have c61 : (M16.1 42 0 (v7).toNatClampNeg) = (M9.1 42 0 (v7).toNatClampNeg) := by rw [e6]; exact up_k (by decide)
            have c62 : (M16.1 49 0 (v7).toNatClampNeg) = ((M9.1 49 0 (v7).toNatClampNeg) - p0) := by rw [e6]; exact up_s
            have c63 : (0 : Int32) ≤ (M16.1 48 0 (v7).toNatClampNeg) ∧ (M16.1 48 0 (v7).toNatClampNeg) ≤ (9 : Int32) := hM16.at1 48 0 ((v7).toNatClampNeg)
            have c64 : (M16.1 48 0 (v7).toNatClampNeg) = (M9.1 48 0 (v7).toNatClampNeg) := by rw [e6]; exact up_k (by decide)
            have c65 : (0 : Int32) ≤ (M9.1 42 0 (v7).toNatClampNeg) ∧ (M9.1 42 0 (v7).toNatClampNeg) ≤ (65535 : Int32) := hM9.at1 42 0 ((v7).toNatClampNeg)
            have c66 : (0 : Int32) ≤ (M9.1 48 0 (v7).toNatClampNeg) ∧ (M9.1 48 0 (v7).toNatClampNeg) ≤ (9 : Int32) := hM9.at1 48 0 ((v7).toNatClampNeg)
            exact vp_of (by decide) (by grind) (show (M22.1 48 0 (v7).toNatClampNeg) < (10 : Int32) by grind)
          have g55 := vp_to (by decide) g55
          have g55 : (0 : Int32) ≤ (M22.1 48 0 (v7).toNatClampNeg) ∧ (M22.1 48 0 (v7).toNatClampNeg) < (10 : Int32) := g55
          refine ok_lq (fun M26 e67 => ?_)
          have hM26 : IV A B M26 := by rw [e67]; exact hM22.u1f rfl (a3 (((M22.1 48 0 (v7).toNatClampNeg)).toNatClampNeg)) rfl
          have p68 : FU (v7 + (1 : Int32)) 40 _ := by
            have c69 : (0 : Int32) ≤ (vp_nar .char (98 : Int32)) ∧ (vp_nar .char (98 : Int32)) ≤ (65535 : Int32) := nar_c _
            have c70 : (0 : Int32) ≤ (M9.1 26 0 5) ∧ (M9.1 26 0 5) ≤ (40 : Int32) := hM9.at1 26 0 5
            have c71 : (0 : Int32) ≤ (M16.1 42 0 (v7).toNatClampNeg) ∧ (M16.1 42 0 (v7).toNatClampNeg) ≤ (65535 : Int32) := hM16.at1 42 0 ((v7).toNatClampNeg)
            have c72 : (M16.1 42 0 (v7).toNatClampNeg) = (M9.1 42 0 (v7).toNatClampNeg) := by rw [e6]; exact up_k (by decide)
            have c73 : (M16.1 49 0 (v7).toNatClampNeg) = ((M9.1 49 0 (v7).toNatClampNeg) - p0) := by rw [e6]; exact up_s
            have c74 : (0 : Int32) ≤ (M22.1 48 0 (v7).toNatClampNeg) ∧ (M22.1 48 0 (v7).toNatClampNeg) ≤ (9 : Int32) := hM22.at1 48 0 ((v7).toNatClampNeg)
            have c75 : (M22.1 48 0 (v7).toNatClampNeg) = (M16.1 48 0 (v7).toNatClampNeg) := by rw [e34]; exact up_k (by decide)
            have c76 : (0 : Int32) ≤ (M9.1 42 0 (v7).toNatClampNeg) ∧ (M9.1 42 0 (v7).toNatClampNeg) ≤ (65535 : Int32) := hM9.at1 42 0 ((v7).toNatClampNeg)
            have c77 : (0 : Int32) ≤ (M16.1 48 0 (v7).toNatClampNeg) ∧ (M16.1 48 0 (v7).toNatClampNeg) ≤ (9 : Int32) := hM16.at1 48 0 ((v7).toNatClampNeg)
            have c78 : (M16.1 48 0 (v7).toNatClampNeg) = (M9.1 48 0 (v7).toNatClampNeg) := by rw [e6]; exact up_k (by decide)
            have c79 : (0 : Int32) ≤ (M9.1 48 0 (v7).toNatClampNeg) ∧ (M9.1 48 0 (v7).toNatClampNeg) ≤ (9 : Int32) := hM9.at1 48 0 ((v7).toNatClampNeg)
            exact FU.step hF (by grind)
          have p80 : (0 : Int32) ≤ (v7 + (1 : Int32)) ∧ (v7 + (1 : Int32)) ≤ (40 : Int32) := by
            have c81 : (0 : Int32) ≤ (vp_nar .char (98 : Int32)) ∧ (vp_nar .char (98 : Int32)) ≤ (65535 : Int32) := nar_c _
            have c82 : (0 : Int32) ≤ (M9.1 26 0 5) ∧ (M9.1 26 0 5) ≤ (40 : Int32) := hM9.at1 26 0 5
            have c83 : (0 : Int32) ≤ (M16.1 42 0 (v7).toNatClampNeg) ∧ (M16.1 42 0 (v7).toNatClampNeg) ≤ (65535 : Int32) := hM16.at1 42 0 ((v7).toNatClampNeg)
            have c84 : (M16.1 42 0 (v7).toNatClampNeg) = (M9.1 42 0 (v7).toNatClampNeg) := by rw [e6]; exact up_k (by decide)
            have c85 : (M16.1 49 0 (v7).toNatClampNeg) = ((M9.1 49 0 (v7).toNatClampNeg) - p0) := by rw [e6]; exact up_s
            have c86 : (0 : Int32) ≤ (M22.1 48 0 (v7).toNatClampNeg) ∧ (M22.1 48 0 (v7).toNatClampNeg) ≤ (9 : Int32) := hM22.at1 48 0 ((v7).toNatClampNeg)
            have c87 : (M22.1 48 0 (v7).toNatClampNeg) = (M16.1 48 0 (v7).toNatClampNeg) := by rw [e34]; exact up_k (by decide)
            have c88 : (0 : Int32) ≤ (M9.1 42 0 (v7).toNatClampNeg) ∧ (M9.1 42 0 (v7).toNatClampNeg) ≤ (65535 : Int32) := hM9.at1 42 0 ((v7).toNatClampNeg)
            have c89 : (0 : Int32) ≤ (M16.1 48 0 (v7).toNatClampNeg) ∧ (M16.1 48 0 (v7).toNatClampNeg) ≤ (9 : Int32) := hM16.at1 48 0 ((v7).toNatClampNeg)
            have c90 : (M16.1 48 0 (v7).toNatClampNeg) = (M9.1 48 0 (v7).toNatClampNeg) := by rw [e6]; exact up_k (by decide)
            have c91 : (0 : Int32) ≤ (M9.1 48 0 (v7).toNatClampNeg) ∧ (M9.1 48 0 (v7).toNatClampNeg) ≤ (9 : Int32) := hM9.at1 48 0 ((v7).toNatClampNeg)
            exact ⟨by grind, by grind⟩
          exact ih (v7 + (1 : Int32)) (v8 + (1 : Int32)) M26 k4 p68 p80 hM26 hk
      · have p92 : FU (v7 + (1 : Int32)) 40 _ := by
          have c93 : (0 : Int32) ≤ (M9.1 26 0 5) ∧ (M9.1 26 0 5) ≤ (40 : Int32) := hM9.at1 26 0 5
          have c94 : (0 : Int32) ≤ (M16.1 42 0 (v7).toNatClampNeg) ∧ (M16.1 42 0 (v7).toNatClampNeg) ≤ (65535 : Int32) := hM16.at1 42 0 ((v7).toNatClampNeg)
          have c95 : (M16.1 42 0 (v7).toNatClampNeg) = (M9.1 42 0 (v7).toNatClampNeg) := by rw [e6]; exact up_k (by decide)
          have c96 : (0 : Int32) ≤ (M9.1 42 0 (v7).toNatClampNeg) ∧ (M9.1 42 0 (v7).toNatClampNeg) ≤ (65535 : Int32) := hM9.at1 42 0 ((v7).toNatClampNeg)
          exact FU.step hF (by grind)
        have p97 : (0 : Int32) ≤ (v7 + (1 : Int32)) ∧ (v7 + (1 : Int32)) ≤ (40 : Int32) := by
          have c98 : (0 : Int32) ≤ (M9.1 26 0 5) ∧ (M9.1 26 0 5) ≤ (40 : Int32) := hM9.at1 26 0 5
          have c99 : (0 : Int32) ≤ (M16.1 42 0 (v7).toNatClampNeg) ∧ (M16.1 42 0 (v7).toNatClampNeg) ≤ (65535 : Int32) := hM16.at1 42 0 ((v7).toNatClampNeg)
          have c100 : (M16.1 42 0 (v7).toNatClampNeg) = (M9.1 42 0 (v7).toNatClampNeg) := by rw [e6]; exact up_k (by decide)
          have c101 : (0 : Int32) ≤ (M9.1 42 0 (v7).toNatClampNeg) ∧ (M9.1 42 0 (v7).toNatClampNeg) ≤ (65535 : Int32) := hM9.at1 42 0 ((v7).toNatClampNeg)
          exact ⟨by grind, by grind⟩
        exact ih (v7 + (1 : Int32)) v8 M16 k4 p92 p97 hM16 hk
theorem s_X7_days {A : Nat → Nat → Nat → Prop} {B : SS} (M : SS) (hM : IV A B M) (p0 : Int32) (a1 : A 26 0 9) (a2 : ∀ p, A 42 0 p) (a3 : ∀ p, A 49 0 p) (a4 : ∀ p, A 51 0 p) : ok (f_X7_days M p0) (fun r => IV A B r.1 ∧ True) := by
  unfold f_X7_days
  refine ok_b0 (s_X7_in p0 (1 : Int32) ⟨by decide, by decide⟩ (30 : Int32) ⟨by decide, by decide⟩) (fun v1 w1 => ?_)
  have w2 : (0 : Int32) ≤ v1 ∧ v1 ≤ (1 : Int32) ∧ ((v1 = 0 ∧ (p0 < (1 : Int32) ∨ (30 : Int32) < p0)) ∨ (v1 = 1 ∧ (1 : Int32) ≤ p0 ∧ p0 ≤ (30 : Int32))) := w1
  refine ok_ite (fun q3 => ?_) (fun q3 => ?_)
  · refine ok_b1 (s_X7_fails M hM (1 : Int32) ⟨by decide, by decide⟩ (a1)) (fun M28 v27 w4 => ?_)
    have hM28 : IV A B M28 := w4.1
    have w5 : (0 : Int32) ≤ v27 ∧ v27 ≤ (0 : Int32) := w4.2
    exact ok_some ⟨hM28, trivial⟩
  · have p6 : (1 : Int32) ≤ p0 ∧ p0 ≤ (30 : Int32) := by
      exact ⟨by grind, by grind⟩
    have p7 : FU (0 : Int32) 40 1000 := by
      exact FU.start (by grind) (by decide)
    refine s_X7_days_L20 p0 p6 (fun p => a2 p) (fun p => a3 p) (fun p => a4 p) 1000 (0 : Int32) (0 : Int32) M _ p7 ⟨by decide, by decide⟩ hM (fun v5 M6 hM6 => ?_)
    refine ok_b1 (s_X7_tells M6 hM6 v5 (a1)) (fun M11 v10 w8 => ?_)
    have hM11 : IV A B M11 := w8.1
    exact ok_some ⟨hM11, trivial⟩
theorem s_X7_checksum_L52 {A : Nat → Nat → Nat → Prop} {B : SS} (M1 : SS) (hM1 : IV A B M1) : ∀ (n : Nat), ∀ (v9 : Int32) (v10 : Int64) (k7 : (Int64 → Option (SS × Int64))), (FU v9 10 n) → ((0 : Int32) ≤ v9 ∧ v9 ≤ (10 : Int32)) → (∀ (k_0 : Int64), ok (k7 k_0) (fun r => IV A B r.1 ∧ True)) → ok (f_X7_checksum_L52 M1 n v9 v10 k7) (fun r => IV A B r.1 ∧ True) := by
  intro n
  induction n with
  | zero =>
    intro v9 v10 k7 hF iv9 hk
    exact (FU.stop hF (show v9 ≤ (10 : Int32) by grind)).elim
  | succ n ih =>
    intro v9 v10 k7 hF iv9 hk
    rw [f_X7_checksum_L52]
    refine ok_ite (fun q1 => ?_) (fun q1 => ?_)
    · exact hk v10
    · refine ok_gd ?_ (fun g2 => ?_)
      · have c3 : (0 : Int32) ≤ (M1.1 26 0 4) ∧ (M1.1 26 0 4) ≤ (10 : Int32) := hM1.at1 26 0 4
        exact vp_of (by decide) (by grind) (show v9 < (10 : Int32) by grind)
      have g2 := vp_to (by decide) g2
      have g2 : (0 : Int32) ≤ v9 ∧ v9 < (10 : Int32) := g2
      refine ok_lq (fun v13 e4 => ?_)
      have p5 : FU (v9 + (1 : Int32)) 10 _ := by
        have c6 : (0 : Int32) ≤ (M1.1 26 0 4) ∧ (M1.1 26 0 4) ≤ (10 : Int32) := hM1.at1 26 0 4
        exact FU.step hF (by grind)
      have p7 : (0 : Int32) ≤ (v9 + (1 : Int32)) ∧ (v9 + (1 : Int32)) ≤ (10 : Int32) := by
        have c8 : (0 : Int32) ≤ (M1.1 26 0 4) ∧ (M1.1 26 0 4) ≤ (10 : Int32) := hM1.at1 26 0 4
        exact ⟨by grind, by grind⟩
      exact ih (v9 + (1 : Int32)) v13 k7 p5 p7 hk
theorem s_X7_checksum_L11 {A : Nat → Nat → Nat → Prop} {B : SS} (M1 : SS) (hM1 : IV A B M1) : ∀ (n : Nat), ∀ (v5 : Int32) (v6 : Int64) (k3 : (Int64 → Option (SS × Int64))), (FU v5 40 n) → ((0 : Int32) ≤ v5 ∧ v5 ≤ (40 : Int32)) → (∀ (k_0 : Int64), ok (k3 k_0) (fun r => IV A B r.1 ∧ True)) → ok (f_X7_checksum_L11 M1 n v5 v6 k3) (fun r => IV A B r.1 ∧ True) := by
  intro n
  induction n with
  | zero =>
    intro v5 v6 k3 hF iv5 hk
    exact (FU.stop hF (show v5 ≤ (40 : Int32) by grind)).elim
  | succ n ih =>
    intro v5 v6 k3 hF iv5 hk
    rw [f_X7_checksum_L11]
    refine ok_ite (fun q1 => ?_) (fun q1 => ?_)
    · exact hk v6
    · refine ok_gd ?_ (fun g2 => ?_)
      · have c3 : (0 : Int32) ≤ (M1.1 26 0 5) ∧ (M1.1 26 0 5) ≤ (40 : Int32) := hM1.at1 26 0 5
        exact vp_of (by decide) (by grind) (show v5 < (40 : Int32) by grind)
      have g2 := vp_to (by decide) g2
      have g2 : (0 : Int32) ≤ v5 ∧ v5 < (40 : Int32) := g2
      have p4 : (0 : Int32) ≤ v5 ∧ v5 ≤ (39 : Int32) := by
        have c5 : (0 : Int32) ≤ (M1.1 26 0 5) ∧ (M1.1 26 0 5) ≤ (40 : Int32) := hM1.at1 26 0 5
        exact ⟨by grind, by grind⟩
      refine ok_b0 (s_X7_weighed M1 hM1 v5 p4) (fun v16 w6 => ?_)
      refine ok_lq (fun v18 e7 => ?_)
      have p8 : FU (v5 + (1 : Int32)) 40 _ := by
        have c9 : (0 : Int32) ≤ (M1.1 26 0 5) ∧ (M1.1 26 0 5) ≤ (40 : Int32) := hM1.at1 26 0 5
        exact FU.step hF (by grind)
      have p10 : (0 : Int32) ≤ (v5 + (1 : Int32)) ∧ (v5 + (1 : Int32)) ≤ (40 : Int32) := by
        have c11 : (0 : Int32) ≤ (M1.1 26 0 5) ∧ (M1.1 26 0 5) ≤ (40 : Int32) := hM1.at1 26 0 5
        exact ⟨by grind, by grind⟩
      exact ih (v5 + (1 : Int32)) v18 k3 p8 p10 hk
theorem s_X7_checksum {A : Nat → Nat → Nat → Prop} {B : SS} (M : SS) (hM : IV A B M) (a1 : A 26 0 9) : ok (f_X7_checksum M) (fun r => IV A B r.1 ∧ True) := by
  unfold f_X7_checksum
  refine ok_lq (fun M1 e1 => ?_)
  have hM1 : IV A B M1 := by rw [e1]; exact hM.u1 rfl (a1) ⟨by decide, by decide⟩
  refine ok_lq (fun v2 e2 => ?_)
  have p3 : FU (0 : Int32) 40 1000 := by
    exact FU.start (by grind) (by decide)
  refine s_X7_checksum_L11 M1 hM1 1000 (0 : Int32) v2 _ p3 ⟨by decide, by decide⟩ (fun v4 => ?_)
  have p4 : FU (0 : Int32) 10 1000 := by
    exact FU.start (by grind) (by decide)
  refine s_X7_checksum_L52 M1 hM1 1000 (0 : Int32) v4 _ p4 ⟨by decide, by decide⟩ (fun v8 => ?_)
  exact ok_some ⟨hM1, trivial⟩
theorem s_X7_standingShare_L20 {A : Nat → Nat → Nat → Prop} {B : SS} (M3 : SS) (hM3 : IV A B M3) : ∀ (n : Nat), ∀ (v6 : Int32) (v7 : Int32) (k4 : (Int32 → Option (SS × UInt32))), (FU v6 40 n) → ((0 : Int32) ≤ v6 ∧ v6 ≤ (40 : Int32)) → (∀ (k_0 : Int32), ok (k4 k_0) (fun r => IV A B r.1 ∧ vf_n32 r.2)) → ok (f_X7_standingShare_L20 M3 n v6 v7 k4) (fun r => IV A B r.1 ∧ vf_n32 r.2) := by
  intro n
  induction n with
  | zero =>
    intro v6 v7 k4 hF iv6 hk
    exact (FU.stop hF (show v6 ≤ (40 : Int32) by grind)).elim
  | succ n ih =>
    intro v6 v7 k4 hF iv6 hk
    rw [f_X7_standingShare_L20]
    refine ok_ite (fun q1 => ?_) (fun q1 => ?_)
    · exact hk v7
    · have p2 : (0 : Int32) ≤ v6 ∧ v6 ≤ (39 : Int32) := by
        have c3 : (0 : Int32) ≤ (M3.1 26 0 5) ∧ (M3.1 26 0 5) ≤ (40 : Int32) := hM3.at1 26 0 5
        exact ⟨by grind, by grind⟩
      refine ok_b0 (s_X7_counts M3 hM3 v6 p2) (fun v11 w4 => ?_)
      have w5 : (0 : Int32) ≤ v11 ∧ v11 ≤ (1 : Int32) := w4
      refine ok_ite (fun q6 => ?_) (fun q6 => ?_)
      · refine ok_lq (fun v14 e7 => ?_)
        have p8 : FU (v6 + (1 : Int32)) 40 _ := by
          have c9 : (0 : Int32) ≤ (M3.1 26 0 5) ∧ (M3.1 26 0 5) ≤ (40 : Int32) := hM3.at1 26 0 5
          exact FU.step hF (by grind)
        have p10 : (0 : Int32) ≤ (v6 + (1 : Int32)) ∧ (v6 + (1 : Int32)) ≤ (40 : Int32) := by
          have c11 : (0 : Int32) ≤ (M3.1 26 0 5) ∧ (M3.1 26 0 5) ≤ (40 : Int32) := hM3.at1 26 0 5
          exact ⟨by grind, by grind⟩
        exact ih (v6 + (1 : Int32)) v14 k4 p8 p10 hk
      · refine ok_lq (fun v15 e12 => ?_)
        have p13 : FU (v6 + (1 : Int32)) 40 _ := by
          have c14 : (0 : Int32) ≤ (M3.1 26 0 5) ∧ (M3.1 26 0 5) ≤ (40 : Int32) := hM3.at1 26 0 5
          exact FU.step hF (by grind)
        have p15 : (0 : Int32) ≤ (v6 + (1 : Int32)) ∧ (v6 + (1 : Int32)) ≤ (40 : Int32) := by
          have c16 : (0 : Int32) ≤ (M3.1 26 0 5) ∧ (M3.1 26 0 5) ≤ (40 : Int32) := hM3.at1 26 0 5
          exact ⟨by grind, by grind⟩
        exact ih (v6 + (1 : Int32)) v15 k4 p13 p15 hk
theorem s_X7_standingShare {A : Nat → Nat → Nat → Prop} {B : SS} (M : SS) (hM : IV A B M) (a1 : A 26 0 9) : ok (f_X7_standingShare M) (fun r => IV A B r.1 ∧ vf_n32 r.2) := by
  unfold f_X7_standingShare
  refine ok_ite (fun q1 => ?_) (fun q1 => ?_)
  · unfold f_X7_standingShare_J13
    refine ok_lq (fun M3 e2 => ?_)
    have hM3 : IV A B M3 := by rw [e2]; exact hM.u1 rfl (a1) ⟨by decide, by decide⟩
    have p3 : FU (0 : Int32) 40 1000 := by
      exact FU.start (by grind) (by decide)
    refine s_X7_standingShare_L20 M3 hM3 1000 (0 : Int32) (0 : Int32) _ p3 ⟨by decide, by decide⟩ (fun v5 => ?_)
    refine ok_ite (fun q4 => ?_) (fun q4 => ?_)
    · refine ok_gd ?_ (fun g5 => ?_)
      · have z6 : ¬ ((M3.1 26 0 5) = 0) := by
          have c7 : (0 : Int32) ≤ (M3.1 26 0 5) ∧ (M3.1 26 0 5) ≤ (40 : Int32) := hM3.at1 26 0 5
          have c8 : (M3.1 26 0 5) = (M.1 26 0 5) := by rw [e2]; exact up_p (by decide)
          have c9 : (0 : Int32) ≤ (M.1 26 0 5) ∧ (M.1 26 0 5) ≤ (40 : Int32) := hM.at1 26 0 5
          grind
        exact nn_fdiv z6
      exact ok_some ⟨hM3, (nn_fdiv z6)⟩
    · exact ok_some ⟨hM3, nn_f0⟩
  · unfold f_X7_standingShare_J13
    refine ok_lq (fun M3 e10 => ?_)
    have hM3 : IV A B M3 := by rw [e10]; exact hM.u1 rfl (a1) ⟨by decide, by decide⟩
    have p11 : FU (0 : Int32) 40 1000 := by
      exact FU.start (by grind) (by decide)
    refine s_X7_standingShare_L20 M3 hM3 1000 (0 : Int32) (0 : Int32) _ p11 ⟨by decide, by decide⟩ (fun v5 => ?_)
    refine ok_ite (fun q12 => ?_) (fun q12 => ?_)
    · refine ok_gd ?_ (fun g13 => ?_)
      · have z14 : ¬ ((M3.1 26 0 5) = 0) := by
          have c15 : (0 : Int32) ≤ (M3.1 26 0 5) ∧ (M3.1 26 0 5) ≤ (40 : Int32) := hM3.at1 26 0 5
          have c16 : (M3.1 26 0 5) = (M.1 26 0 5) := by rw [e10]; exact up_p (by decide)
          have c17 : (0 : Int32) ≤ (M.1 26 0 5) ∧ (M.1 26 0 5) ≤ (40 : Int32) := hM.at1 26 0 5
          grind
        exact nn_fdiv z14
      exact ok_some ⟨hM3, (nn_fdiv z14)⟩
    · exact ok_some ⟨hM3, nn_f0⟩
theorem s_X7_meanSteps_J71 {A : Nat → Nat → Nat → Prop} {B : SS} {n : Nat} (rc : Int32 → Int32 → Int32 → SS → (Int32 → Int32 → SS → Option (SS × UInt64)) → Option (SS × UInt64)) (hrc : ∀ (v11 : Int32) (v12 : Int32) (v13 : Int32) (M14 : SS) (k7 : (Int32 → Int32 → SS → Option (SS × UInt64))), (FU v11 5 n) → ((0 : Int32) ≤ v11 ∧ v11 ≤ (5 : Int32)) → (IV A B M14) → (∀ (k_0 : Int32) (k_1 : Int32) (k_2 : SS), (IV A B k_2) → ok (k7 k_0 k_1 k_2) (fun r => IV A B r.1 ∧ vf_n64 r.2)) → ok (rc v11 v12 v13 M14 k7) (fun r => IV A B r.1 ∧ vf_n64 r.2)) (k7 : Int32 → Int32 → SS → Option (SS × UInt64)) (hk : ∀ (k_0 : Int32) (k_1 : Int32) (k_2 : SS), (IV A B k_2) → ok (k7 k_0 k_1 k_2) (fun r => IV A B r.1 ∧ vf_n64 r.2)) (v13 : Int32) (v24 : Int32) (v12 : Int32) (v11 : Int32) (iv11 : (0 : Int32) ≤ v11 ∧ v11 ≤ (4 : Int32)) (M25 : SS) (hM25 : IV A B M25) (v27 : Int32) (hF : FU v11 5 (n + 1)) : ok (f_X7_meanSteps_J71 rc k7 v13 v24 v12 v11 M25 v27) (fun r => IV A B r.1 ∧ vf_n64 r.2) := by
  unfold f_X7_meanSteps_J71
  refine ok_lq (fun v29 e1 => ?_)
  refine ok_ite (fun q2 => ?_) (fun q2 => ?_)
  · refine ok_lq (fun v32 e3 => ?_)
    have p4 : FU (v11 + (1 : Int32)) 5 _ := by
      exact FU.step hF (by grind)
    have p5 : (0 : Int32) ≤ (v11 + (1 : Int32)) ∧ (v11 + (1 : Int32)) ≤ (5 : Int32) := by
      exact ⟨by grind, by grind⟩
    exact hrc (v11 + (1 : Int32)) v32 v29 M25 k7 p4 p5 hM25 hk
  · refine ok_lq (fun v31 e6 => ?_)
    have p7 : FU (v11 + (1 : Int32)) 5 _ := by
      exact FU.step hF (by grind)
    have p8 : (0 : Int32) ≤ (v11 + (1 : Int32)) ∧ (v11 + (1 : Int32)) ≤ (5 : Int32) := by
      exact ⟨by grind, by grind⟩
    exact hrc (v11 + (1 : Int32)) v31 v29 M25 k7 p7 p8 hM25 hk
theorem s_X7_meanSteps_L33 {A : Nat → Nat → Nat → Prop} {B : SS} (p0 : Int32) (ip0 : (0 : Int32) ≤ p0 ∧ p0 ≤ (39 : Int32)) (a1 : A 26 0 38) (a2 : A 26 0 39) (a3 : A 26 0 40) (a4 : ∀ p, A 53 0 p) (a5 : ∀ p, A 54 0 p) : ∀ (n : Nat), ∀ (v11 : Int32) (v12 : Int32) (v13 : Int32) (M14 : SS) (k7 : (Int32 → Int32 → SS → Option (SS × UInt64))), (FU v11 5 n) → ((0 : Int32) ≤ v11 ∧ v11 ≤ (5 : Int32)) → (IV A B M14) → (∀ (k_0 : Int32) (k_1 : Int32) (k_2 : SS), (IV A B k_2) → ok (k7 k_0 k_1 k_2) (fun r => IV A B r.1 ∧ vf_n64 r.2)) → ok (f_X7_meanSteps_L33 p0 n v11 v12 v13 M14 k7) (fun r => IV A B r.1 ∧ vf_n64 r.2) := by
  intro n
  induction n with
  | zero =>
    intro v11 v12 v13 M14 k7 hF iv11 hM14 hk
    exact (FU.stop hF (show v11 ≤ (5 : Int32) by grind)).elim
  | succ n ih =>
    intro v11 v12 v13 M14 k7 hF iv11 hM14 hk
    rw [f_X7_meanSteps_L33]
    refine ok_gd ?_ (fun g1 => ?_)
    · exact vp_of (by decide) (by grind) (show p0 < (40 : Int32) by grind)
    have g1 := vp_to (by decide) g1
    have g1 : (0 : Int32) ≤ p0 ∧ p0 < (40 : Int32) := g1
    refine ok_gd ?_ (fun g2 => ?_)
    · have c3 : (0 : Int32) ≤ (M14.1 40 0 (p0).toNatClampNeg) ∧ (M14.1 40 0 (p0).toNatClampNeg) ≤ (7 : Int32) := hM14.at1 40 0 ((p0).toNatClampNeg)
      exact vp_of (by decide) (by grind) (show (M14.1 40 0 (p0).toNatClampNeg) < (8 : Int32) by grind)
    have g2 := vp_to (by decide) g2
    have g2 : (0 : Int32) ≤ (M14.1 40 0 (p0).toNatClampNeg) ∧ (M14.1 40 0 (p0).toNatClampNeg) < (8 : Int32) := g2
    refine ok_ite (fun q4 => ?_) (fun q4 => ?_)
    · exact hk v12 v13 M14 hM14
    · have p5 : (0 : Int32) ≤ p0 ∧ p0 ≤ (39 : Int32) := by
        have c6 : (0 : Int32) ≤ (M14.1 40 0 (p0).toNatClampNeg) ∧ (M14.1 40 0 (p0).toNatClampNeg) ≤ (7 : Int32) := hM14.at1 40 0 ((p0).toNatClampNeg)
        have c7 : (0 : Int32) ≤ (M14.1 33 0 ((M14.1 40 0 (p0).toNatClampNeg)).toNatClampNeg) ∧ (M14.1 33 0 ((M14.1 40 0 (p0).toNatClampNeg)).toNatClampNeg) ≤ (5 : Int32) := hM14.at1 33 0 (((M14.1 40 0 (p0).toNatClampNeg)).toNatClampNeg)
        exact ⟨by grind, by grind⟩
      have p8 : (0 : Int32) ≤ v11 ∧ v11 ≤ (4 : Int32) := by
        have c9 : (0 : Int32) ≤ (M14.1 33 0 ((M14.1 40 0 (p0).toNatClampNeg)).toNatClampNeg) ∧ (M14.1 33 0 ((M14.1 40 0 (p0).toNatClampNeg)).toNatClampNeg) ≤ (5 : Int32) := hM14.at1 33 0 (((M14.1 40 0 (p0).toNatClampNeg)).toNatClampNeg)
        have c10 : (0 : Int32) ≤ (M14.1 40 0 (p0).toNatClampNeg) ∧ (M14.1 40 0 (p0).toNatClampNeg) ≤ (7 : Int32) := hM14.at1 40 0 ((p0).toNatClampNeg)
        exact ⟨by grind, by grind⟩
      refine ok_b1 (s_X7_stepsOf M14 hM14 p0 p5 v11 p8 (a1) (a2) (a3) (fun p => a4 p) (fun p => a5 p)) (fun M25 v24 w11 => ?_)
      have hM25 : IV A B M25 := w11.1
      refine ok_ite (fun q12 => ?_) (fun q12 => ?_)
      · have p13 : (0 : Int32) ≤ v11 ∧ v11 ≤ (4 : Int32) := by
          have c14 : (0 : Int32) ≤ (M14.1 33 0 ((M14.1 40 0 (p0).toNatClampNeg)).toNatClampNeg) ∧ (M14.1 33 0 ((M14.1 40 0 (p0).toNatClampNeg)).toNatClampNeg) ≤ (5 : Int32) := hM14.at1 33 0 (((M14.1 40 0 (p0).toNatClampNeg)).toNatClampNeg)
          have c15 : (0 : Int32) ≤ (M14.1 40 0 (p0).toNatClampNeg) ∧ (M14.1 40 0 (p0).toNatClampNeg) ≤ (7 : Int32) := hM14.at1 40 0 ((p0).toNatClampNeg)
          exact ⟨by grind, by grind⟩
        exact s_X7_meanSteps_J71 (n := _) (f_X7_meanSteps_L33 p0 n) ih k7 hk v13 v24 v12 v11 p13 M25 hM25 (0 : Int32) hF
      · have p16 : (0 : Int32) ≤ v11 ∧ v11 ≤ (4 : Int32) := by
          have c17 : (0 : Int32) ≤ (M14.1 33 0 ((M14.1 40 0 (p0).toNatClampNeg)).toNatClampNeg) ∧ (M14.1 33 0 ((M14.1 40 0 (p0).toNatClampNeg)).toNatClampNeg) ≤ (5 : Int32) := hM14.at1 33 0 (((M14.1 40 0 (p0).toNatClampNeg)).toNatClampNeg)
          have c18 : (0 : Int32) ≤ (M14.1 40 0 (p0).toNatClampNeg) ∧ (M14.1 40 0 (p0).toNatClampNeg) ≤ (7 : Int32) := hM14.at1 40 0 ((p0).toNatClampNeg)
          exact ⟨by grind, by grind⟩
        exact s_X7_meanSteps_J71 (n := _) (f_X7_meanSteps_L33 p0 n) ih k7 hk v13 v24 v12 v11 p16 M25 hM25 v24 hF
theorem s_X7_meanSteps {A : Nat → Nat → Nat → Prop} {B : SS} (M : SS) (hM : IV A B M) (p0 : Int32) (a1 : A 26 0 38) (a2 : A 26 0 39) (a3 : A 26 0 40) (a4 : A 26 0 9) (a5 : ∀ p, A 53 0 p) (a6 : ∀ p, A 54 0 p) : ok (f_X7_meanSteps M p0) (fun r => IV A B r.1 ∧ vf_n64 r.2) := by
  unfold f_X7_meanSteps
  refine ok_b0 (s_X7_isWork M hM p0) (fun v1 w1 => ?_)
  have w2 : (0 : Int32) ≤ v1 ∧ v1 ≤ (1 : Int32) ∧ ((v1 = 0 ∧ (p0 < 0 ∨ (M.1 26 0 5) ≤ p0)) ∨ (v1 = 1 ∧ 0 ≤ p0 ∧ p0 < (M.1 26 0 5))) := w1
  refine ok_ite (fun q3 => ?_) (fun q3 => ?_)
  · unfold f_X7_meanSteps_J14
    refine ok_lq (fun M5 e4 => ?_)
    have hM5 : IV A B M5 := by rw [e4]; exact hM.u1 rfl (a4) ⟨by decide, by decide⟩
    refine ok_ite (fun q5 => ?_) (fun q5 => ?_)
    · have p6 : (0 : Int32) ≤ p0 ∧ p0 ≤ (39 : Int32) := by
        exact ⟨by grind, by grind⟩
      have p7 : FU (0 : Int32) 5 1000 := by
        exact FU.start (by grind) (by decide)
      refine s_X7_meanSteps_L33 p0 p6 (a1) (a2) (a3) (fun p => a5 p) (fun p => a6 p) 1000 (0 : Int32) (0 : Int32) (0 : Int32) M5 _ p7 ⟨by decide, by decide⟩ hM5 (fun v8 v9 M10 hM10 => ?_)
      refine ok_ite (fun q8 => ?_) (fun q8 => ?_)
      · unfold f_X7_meanSteps_J103
        refine ok_lq (fun M17 e9 => ?_)
        have hM17 : IV A B M17 := by rw [e9]; exact hM10.u1 rfl (a4) ⟨by decide, by decide⟩
        refine ok_ite (fun q10 => ?_) (fun q10 => ?_)
        · refine ok_gd ?_ (fun g11 => ?_)
          · have z12 : ¬ (v8 = 0) := by
              grind
            exact nn_ddiv z12
          exact ok_some ⟨hM17, (nn_ddiv z12)⟩
        · exact ok_some ⟨hM17, nn_d0⟩
      · unfold f_X7_meanSteps_J103
        refine ok_lq (fun M17 e13 => ?_)
        have hM17 : IV A B M17 := by rw [e13]; exact hM10.u1 rfl (a4) ⟨by decide, by decide⟩
        refine ok_ite (fun q14 => ?_) (fun q14 => ?_)
        · refine ok_gd ?_ (fun g15 => ?_)
          · have z16 : ¬ (v8 = 0) := by
              grind
            exact nn_ddiv z16
          exact ok_some ⟨hM17, (nn_ddiv z16)⟩
        · exact ok_some ⟨hM17, nn_d0⟩
    · exact ok_some ⟨hM5, nn_d0⟩
  · unfold f_X7_meanSteps_J14
    refine ok_lq (fun M5 e17 => ?_)
    have hM5 : IV A B M5 := by rw [e17]; exact hM.u1 rfl (a4) ⟨by decide, by decide⟩
    refine ok_ite (fun q18 => ?_) (fun q18 => ?_)
    · have p19 : (0 : Int32) ≤ p0 ∧ p0 ≤ (39 : Int32) := by
        exact ⟨by grind, by grind⟩
      have p20 : FU (0 : Int32) 5 1000 := by
        exact FU.start (by grind) (by decide)
      refine s_X7_meanSteps_L33 p0 p19 (a1) (a2) (a3) (fun p => a5 p) (fun p => a6 p) 1000 (0 : Int32) (0 : Int32) (0 : Int32) M5 _ p20 ⟨by decide, by decide⟩ hM5 (fun v8 v9 M10 hM10 => ?_)
      refine ok_ite (fun q21 => ?_) (fun q21 => ?_)
      · unfold f_X7_meanSteps_J103
        refine ok_lq (fun M17 e22 => ?_)
        have hM17 : IV A B M17 := by rw [e22]; exact hM10.u1 rfl (a4) ⟨by decide, by decide⟩
        refine ok_ite (fun q23 => ?_) (fun q23 => ?_)
        · refine ok_gd ?_ (fun g24 => ?_)
          · have z25 : ¬ (v8 = 0) := by
              grind
            exact nn_ddiv z25
          exact ok_some ⟨hM17, (nn_ddiv z25)⟩
        · exact ok_some ⟨hM17, nn_d0⟩
      · unfold f_X7_meanSteps_J103
        refine ok_lq (fun M17 e26 => ?_)
        have hM17 : IV A B M17 := by rw [e26]; exact hM10.u1 rfl (a4) ⟨by decide, by decide⟩
        refine ok_ite (fun q27 => ?_) (fun q27 => ?_)
        · refine ok_gd ?_ (fun g28 => ?_)
          · have z29 : ¬ (v8 = 0) := by
              grind
            exact nn_ddiv z29
          exact ok_some ⟨hM17, (nn_ddiv z29)⟩
        · exact ok_some ⟨hM17, nn_d0⟩
    · exact ok_some ⟨hM5, nn_d0⟩
theorem s_X7_isSound {A : Nat → Nat → Nat → Prop} {B : SS} (M : SS) (hM : IV A B M) (a1 : A 26 0 9) : ok (f_X7_isSound M) (fun r => IV A B r.1 ∧ (1 : Int32) ≤ r.2 ∧ r.2 ≤ (1 : Int32)) := by
  unfold f_X7_isSound
  refine ok_lq (fun M1 e1 => ?_)
  have hM1 : IV A B M1 := by rw [e1]; exact hM.u1 rfl (a1) ⟨by decide, by decide⟩
  have p2 : (1 : Int32) ≤ (1 : Int32) ∧ (1 : Int32) ≤ (1 : Int32) := by
    exact ⟨by grind, by grind⟩
  exact ok_some ⟨hM1, p2⟩
theorem s_L_step {A : Nat → Nat → Nat → Prop} {B : SS} (X : SS) (hX : IV A B X) (O : SS) (p1 : Int32) (p2 : Int32) (a1 : A 1 0 2) (a2 : A 156 0 0) (a3 : ∀ p, A 2 0 p) (a4 : ∀ p, A 3 0 p) : ok (f_L_step X O p1 p2) (fun r => IV A B r.1 ∧ (0 : Int32) ≤ r.2.2 ∧ r.2.2 ≤ (2 : Int32)) := by
  unfold f_L_step
  refine ok_e1 (s_X6_step X hX p1 p2 (a1) (fun p => a3 p) (fun p => a4 p)) (fun X2 v1 w1 => ?_) (fun X2 E5 w1 => ?_)
  · have hX2 : IV A B X2 := w1.1
    have w2 : (0 : Int32) ≤ v1 ∧ v1 ≤ (24 : Int32) := w1.2
    refine ok_lq (fun O10 e3 => ?_)
    have p4 : (0 : Int32) ≤ (0 : Int32) ∧ (0 : Int32) ≤ (2 : Int32) := by
      exact ⟨by grind, by grind⟩
    exact ok_some ⟨hX2, p4⟩
  · have hX2 : IV A B X2 := w1.1
    have w5 : E5 = "java/lang/IllegalArgumentException" ∨ E5 = "java/lang/IllegalStateException" := w1.2
    refine ok_ite (fun q6 => ?_) (fun q6 => ?_)
    · have p7 : (0 : Int32) ≤ (1 : Int32) ∧ (1 : Int32) ≤ (2 : Int32) := by
        exact ⟨by grind, by grind⟩
      exact ok_some ⟨hX2, p7⟩
    · refine ok_ite (fun q8 => ?_) (fun q8 => ?_)
      · have p9 : (0 : Int32) ≤ (2 : Int32) ∧ (2 : Int32) ≤ (2 : Int32) := by
          exact ⟨by grind, by grind⟩
        exact ok_some ⟨hX2, p9⟩
      · exact absurd (by grind : False) id
theorem s_L_number {A : Nat → Nat → Nat → Prop} {B : SS} (X : SS) (hX : IV A B X) (O : SS) (p1 : Int32) (p2 : Int32) (a1 : A 156 0 0) (a2 : A 4 40 2) (a3 : A 4 40 3) (a4 : ∀ p, A 5 40 p) (a5 : ∀ p, A 6 40 p) : ok (f_L_number X O p1 p2) (fun r => IV A B r.1 ∧ (0 : Int32) ≤ r.2.2 ∧ r.2.2 ≤ (2 : Int32)) := by
  unfold f_L_number
  refine ok_e1 (s_X6_number X hX p1 p2 (a2) (a3) (fun p => a4 p) (fun p => a5 p)) (fun X2 v1 w1 => ?_) (fun X2 E5 w1 => ?_)
  · have hX2 : IV A B X2 := w1.1
    have w2 : (0 : Int32) ≤ v1 ∧ v1 ≤ (6 : Int32) := w1.2
    refine ok_lq (fun O10 e3 => ?_)
    have p4 : (0 : Int32) ≤ (0 : Int32) ∧ (0 : Int32) ≤ (2 : Int32) := by
      exact ⟨by grind, by grind⟩
    exact ok_some ⟨hX2, p4⟩
  · have hX2 : IV A B X2 := w1.1
    have w5 : E5 = "java/lang/IllegalArgumentException" ∨ E5 = "java/lang/IllegalStateException" := w1.2
    refine ok_ite (fun q6 => ?_) (fun q6 => ?_)
    · have p7 : (0 : Int32) ≤ (1 : Int32) ∧ (1 : Int32) ≤ (2 : Int32) := by
        exact ⟨by grind, by grind⟩
      exact ok_some ⟨hX2, p7⟩
    · refine ok_ite (fun q8 => ?_) (fun q8 => ?_)
      · have p9 : (0 : Int32) ≤ (2 : Int32) ∧ (2 : Int32) ≤ (2 : Int32) := by
          exact ⟨by grind, by grind⟩
        exact ok_some ⟨hX2, p9⟩
      · exact absurd (by grind : False) id
theorem s_L_kata {A : Nat → Nat → Nat → Prop} {B : SS} (X : SS) (hX : IV A B X) (O : SS) (p1 : Int32) (a1 : A 0 0 9) (a2 : A 156 0 0) (a3 : ∀ j, A 7 j 2) : ok (f_L_kata X O p1) (fun r => IV A B r.1 ∧ (0 : Int32) ≤ r.2.2 ∧ r.2.2 ≤ (2 : Int32)) := by
  unfold f_L_kata
  refine ok_e1 (s_X6_kata X hX p1 (a1) a3) (fun X2 v1 w1 => ?_) (fun X2 E5 w1 => ?_)
  · have hX2 : IV A B X2 := w1.1
    have w2 : ((-1) : Int32) ≤ v1 ∧ v1 ≤ (7 : Int32) := w1.2
    refine ok_lq (fun O10 e3 => ?_)
    have p4 : (0 : Int32) ≤ (0 : Int32) ∧ (0 : Int32) ≤ (2 : Int32) := by
      exact ⟨by grind, by grind⟩
    exact ok_some ⟨hX2, p4⟩
  · have hX2 : IV A B X2 := w1.1
    have w5 : E5 = "java/lang/IllegalArgumentException" ∨ E5 = "java/lang/IllegalStateException" := w1.2
    refine ok_ite (fun q6 => ?_) (fun q6 => ?_)
    · have p7 : (0 : Int32) ≤ (1 : Int32) ∧ (1 : Int32) ≤ (2 : Int32) := by
        exact ⟨by grind, by grind⟩
      exact ok_some ⟨hX2, p7⟩
    · refine ok_ite (fun q8 => ?_) (fun q8 => ?_)
      · have p9 : (0 : Int32) ≤ (2 : Int32) ∧ (2 : Int32) ≤ (2 : Int32) := by
          exact ⟨by grind, by grind⟩
        exact ok_some ⟨hX2, p9⟩
      · exact absurd (by grind : False) id
theorem s_L_test {A : Nat → Nat → Nat → Prop} {B : SS} (X : SS) (hX : IV A B X) (O : SS) (p1 : Int32) (a1 : A 0 0 14) (a2 : ∀ j, A 12 j 11) (a3 : A 156 0 0) (a4 : A 16 1 4) (a5 : A 16 1 5) (a6 : A 16 1 6) (a7 : A 16 1 7) (a8 : A 16 1 8) (a9 : ∀ p, A 17 1 p) (a10 : ∀ p, A 18 1 p) (a11 : ∀ p, A 19 1 p) (a12 : ∀ p, A 20 1 p) (a13 : ∀ j, A 4 j 2) (a14 : ∀ j, A 4 j 3) (a15 : ∀ j, A 4 j 4) (a16 : ∀ j p, A 5 j p) (a17 : ∀ j p, A 6 j p) (a18 : ∀ j, A 7 j 1) : ok (f_L_test X O p1) (fun r => IV A B r.1 ∧ (0 : Int32) ≤ r.2.2 ∧ r.2.2 ≤ (2 : Int32)) := by
  unfold f_L_test
  refine ok_e1 (s_X6_test X hX p1 (a1) a2 (a4) (a5) (a6) (a7) (a8) (fun p => a9 p) (fun p => a10 p) (fun p => a11 p) (fun p => a12 p) a13 a14 a15 a16 a17 a18) (fun X2 v1 w1 => ?_) (fun X2 E5 w1 => ?_)
  · have hX2 : IV A B X2 := w1.1
    refine ok_lq (fun O10 e2 => ?_)
    have p3 : (0 : Int32) ≤ (0 : Int32) ∧ (0 : Int32) ≤ (2 : Int32) := by
      exact ⟨by grind, by grind⟩
    exact ok_some ⟨hX2, p3⟩
  · have hX2 : IV A B X2 := w1.1
    have w4 : E5 = "java/lang/IllegalStateException" ∨ E5 = "java/lang/IndexOutOfBoundsException" := w1.2
    refine ok_ite (fun q5 => ?_) (fun q5 => ?_)
    · have p6 : (0 : Int32) ≤ (1 : Int32) ∧ (1 : Int32) ≤ (2 : Int32) := by
        exact ⟨by grind, by grind⟩
      exact ok_some ⟨hX2, p6⟩
    · refine ok_ite (fun q7 => ?_) (fun q7 => ?_)
      · have p8 : (0 : Int32) ≤ (2 : Int32) ∧ (2 : Int32) ≤ (2 : Int32) := by
          exact ⟨by grind, by grind⟩
        exact ok_some ⟨hX2, p8⟩
      · exact absurd (by grind : False) id
theorem s_L_fix {A : Nat → Nat → Nat → Prop} {B : SS} (X : SS) (hX : IV A B X) (O : SS) (p1 : Int32) (p2 : Int32) (a1 : A 0 0 14) (a2 : ∀ j, A 12 j 11) (a3 : A 156 0 0) (a4 : A 16 1 4) (a5 : A 16 1 5) (a6 : A 16 1 6) (a7 : A 16 1 7) (a8 : A 16 1 8) (a9 : ∀ p, A 17 1 p) (a10 : ∀ p, A 18 1 p) (a11 : ∀ p, A 19 1 p) (a12 : ∀ p, A 20 1 p) (a13 : ∀ j, A 4 j 2) (a14 : ∀ j, A 4 j 3) (a15 : ∀ j, A 4 j 4) (a16 : ∀ j p, A 5 j p) (a17 : ∀ j p, A 6 j p) : ok (f_L_fix X O p1 p2) (fun r => IV A B r.1 ∧ (0 : Int32) ≤ r.2.2 ∧ r.2.2 ≤ (1 : Int32)) := by
  unfold f_L_fix
  refine ok_e1 (s_X6_fix X hX p1 p2 (a1) a2 (a4) (a5) (a6) (a7) (a8) (fun p => a9 p) (fun p => a10 p) (fun p => a11 p) (fun p => a12 p) a13 a14 a15 a16 a17) (fun X2 v1 w1 => ?_) (fun X2 E5 w1 => ?_)
  · have hX2 : IV A B X2 := w1.1
    refine ok_lq (fun O9 e2 => ?_)
    have p3 : (0 : Int32) ≤ (0 : Int32) ∧ (0 : Int32) ≤ (1 : Int32) := by
      exact ⟨by grind, by grind⟩
    exact ok_some ⟨hX2, p3⟩
  · have hX2 : IV A B X2 := w1.1
    have w4 : E5 = "java/lang/IndexOutOfBoundsException" := w1.2
    refine ok_ite (fun q5 => ?_) (fun q5 => ?_)
    · have p6 : (0 : Int32) ≤ (1 : Int32) ∧ (1 : Int32) ≤ (1 : Int32) := by
        exact ⟨by grind, by grind⟩
      exact ok_some ⟨hX2, p6⟩
    · exact absurd (by grind : False) id
theorem s_L_tests {A : Nat → Nat → Nat → Prop} {B : SS} (X : SS) (hX : IV A B X) (O : SS) (p1 : Int32) (a1 : A 156 0 0) : ok (f_L_tests X O p1) (fun r => IV A B r.1 ∧ (0 : Int32) ≤ r.2 ∧ r.2 ≤ (1 : Int32)) := by
  unfold f_L_tests
  refine ok_e0 (s_X6_tests X hX p1) (fun v1 w1 => ?_) (fun E4 w1 => ?_)
  · have w2 : (0 : Int32) ≤ v1 ∧ v1 ≤ (5 : Int32) := w1
    refine ok_lq (fun O8 e3 => ?_)
    have p4 : (0 : Int32) ≤ (0 : Int32) ∧ (0 : Int32) ≤ (1 : Int32) := by
      exact ⟨by grind, by grind⟩
    exact ok_some p4
  · have w5 : E4 = "java/lang/IndexOutOfBoundsException" := w1
    refine ok_ite (fun q6 => ?_) (fun q6 => ?_)
    · have p7 : (0 : Int32) ≤ (1 : Int32) ∧ (1 : Int32) ≤ (1 : Int32) := by
        exact ⟨by grind, by grind⟩
      exact ok_some p7
    · exact absurd (by grind : False) id
theorem s_L_run {A : Nat → Nat → Nat → Prop} {B : SS} (X : SS) (hX : IV A B X) (O : SS) (p1 : Int32) (p2 : Int32) (a1 : A 0 0 15) (a2 : A 156 0 0) (a3 : A 16 0 4) (a4 : A 16 0 5) (a5 : A 16 0 6) (a6 : A 16 0 7) (a7 : A 16 0 8) (a8 : ∀ p, A 17 0 p) (a9 : ∀ p, A 18 0 p) (a10 : ∀ p, A 19 0 p) (a11 : ∀ p, A 20 0 p) : ok (f_L_run X O p1 p2) (fun r => IV A B r.1 ∧ (0 : Int32) ≤ r.2.2 ∧ r.2.2 ≤ (2 : Int32)) := by
  unfold f_L_run
  refine ok_e1 (s_X6_run X hX p1 p2 (a1) (a3) (a4) (a5) (a6) (a7) (fun p => a8 p) (fun p => a9 p) (fun p => a10 p) (fun p => a11 p)) (fun X2 v1 w1 => ?_) (fun X2 E5 w1 => ?_)
  · have hX2 : IV A B X2 := w1.1
    have w2 : (33 : Int32) ≤ v1 ∧ v1 ≤ (122 : Int32) := w1.2
    refine ok_lq (fun O10 e3 => ?_)
    have p4 : (0 : Int32) ≤ (0 : Int32) ∧ (0 : Int32) ≤ (2 : Int32) := by
      exact ⟨by grind, by grind⟩
    exact ok_some ⟨hX2, p4⟩
  · have hX2 : IV A B X2 := w1.1
    have w5 : E5 = "java/lang/IndexOutOfBoundsException" ∨ E5 = "java/lang/UnsupportedOperationException" := w1.2
    refine ok_ite (fun q6 => ?_) (fun q6 => ?_)
    · have p7 : (0 : Int32) ≤ (1 : Int32) ∧ (1 : Int32) ≤ (2 : Int32) := by
        exact ⟨by grind, by grind⟩
      exact ok_some ⟨hX2, p7⟩
    · refine ok_ite (fun q8 => ?_) (fun q8 => ?_)
      · have p9 : (0 : Int32) ≤ (2 : Int32) ∧ (2 : Int32) ≤ (2 : Int32) := by
          exact ⟨by grind, by grind⟩
        exact ok_some ⟨hX2, p9⟩
      · exact absurd (by grind : False) id
theorem s_L_done {A : Nat → Nat → Nat → Prop} {B : SS} (X : SS) (hX : IV A B X) (O : SS) (a1 : A 156 0 0) : ok (f_L_done X O) (fun r => IV A B r.1 ∧ (0 : Int32) ≤ r.2 ∧ r.2 ≤ (1 : Int32)) := by
  unfold f_L_done
  refine ok_e0 (s_X6_done X hX) (fun v1 w1 => ?_) (fun E4 w1 => ?_)
  · refine ok_lq (fun O8 e2 => ?_)
    have p3 : (0 : Int32) ≤ (0 : Int32) ∧ (0 : Int32) ≤ (1 : Int32) := by
      exact ⟨by grind, by grind⟩
    exact ok_some p3
  · have w4 : E4 = "java/util/NoSuchElementException" := w1
    refine ok_ite (fun q5 => ?_) (fun q5 => ?_)
    · have p6 : (0 : Int32) ≤ (1 : Int32) ∧ (1 : Int32) ≤ (1 : Int32) := by
        exact ⟨by grind, by grind⟩
      exact ok_some p6
    · exact absurd (by grind : False) id
theorem s_L_outputs {A : Nat → Nat → Nat → Prop} {B : SS} (X : SS) (hX : IV A B X) (O : SS) (a1 : A 156 0 0) : ok (f_L_outputs X O) (fun r => IV A B r.1 ∧ (0 : Int32) ≤ r.2 ∧ r.2 ≤ (1 : Int32)) := by
  unfold f_L_outputs
  refine ok_e0 (s_X6_outputs X hX) (fun v1 w1 => ?_) (fun E4 w1 => ?_)
  · have w2 : (0 : Int32) ≤ v1 ∧ v1 ≤ (6 : Int32) := w1
    refine ok_lq (fun O8 e3 => ?_)
    have p4 : (0 : Int32) ≤ (0 : Int32) ∧ (0 : Int32) ≤ (1 : Int32) := by
      exact ⟨by grind, by grind⟩
    exact ok_some p4
  · have w5 : E4 = "java/util/NoSuchElementException" := w1
    refine ok_ite (fun q6 => ?_) (fun q6 => ?_)
    · have p7 : (0 : Int32) ≤ (1 : Int32) ∧ (1 : Int32) ≤ (1 : Int32) := by
        exact ⟨by grind, by grind⟩
      exact ok_some p7
    · exact absurd (by grind : False) id
theorem s_L_output {A : Nat → Nat → Nat → Prop} {B : SS} (X : SS) (hX : IV A B X) (O : SS) (p1 : Int32) (a1 : A 156 0 0) : ok (f_L_output X O p1) (fun r => IV A B r.1 ∧ (0 : Int32) ≤ r.2 ∧ r.2 ≤ (1 : Int32)) := by
  unfold f_L_output
  refine ok_e0 (s_X6_output X hX p1) (fun v1 w1 => ?_) (fun E4 w1 => ?_)
  · refine ok_lq (fun O8 e2 => ?_)
    have p3 : (0 : Int32) ≤ (0 : Int32) ∧ (0 : Int32) ≤ (1 : Int32) := by
      exact ⟨by grind, by grind⟩
    exact ok_some p3
  · have w4 : E4 = "java/util/NoSuchElementException" := w1
    refine ok_ite (fun q5 => ?_) (fun q5 => ?_)
    · have p6 : (0 : Int32) ≤ (1 : Int32) ∧ (1 : Int32) ≤ (1 : Int32) := by
        exact ⟨by grind, by grind⟩
      exact ok_some p6
    · exact absurd (by grind : False) id
theorem s_L_depth {A : Nat → Nat → Nat → Prop} {B : SS} (X : SS) (hX : IV A B X) (O : SS) (a1 : A 156 0 0) : ok (f_L_depth X O) (fun r => IV A B r.1 ∧ (0 : Int32) ≤ r.2 ∧ r.2 ≤ (1 : Int32)) := by
  unfold f_L_depth
  refine ok_e0 (s_X6_depth X hX) (fun v1 w1 => ?_) (fun E4 w1 => ?_)
  · have w2 : (0 : Int32) ≤ v1 ∧ v1 ≤ (12 : Int32) := w1
    refine ok_lq (fun O8 e3 => ?_)
    have p4 : (0 : Int32) ≤ (0 : Int32) ∧ (0 : Int32) ≤ (1 : Int32) := by
      exact ⟨by grind, by grind⟩
    exact ok_some p4
  · have w5 : E4 = "java/util/NoSuchElementException" := w1
    refine ok_ite (fun q6 => ?_) (fun q6 => ?_)
    · have p7 : (0 : Int32) ≤ (1 : Int32) ∧ (1 : Int32) ≤ (1 : Int32) := by
        exact ⟨by grind, by grind⟩
      exact ok_some p7
    · exact absurd (by grind : False) id
theorem s_L_member {A : Nat → Nat → Nat → Prop} {B : SS} (X : SS) (hX : IV A B X) (O : SS) (a1 : A 0 0 10) (a2 : A 156 0 0) : ok (f_L_member X O) (fun r => IV A B r.1 ∧ (0 : Int32) ≤ r.2.2 ∧ r.2.2 ≤ (1 : Int32)) := by
  unfold f_L_member
  refine ok_e1 (s_X6_member X hX (a1)) (fun X2 v1 w1 => ?_) (fun X2 E5 w1 => ?_)
  · have hX2 : IV A B X2 := w1.1
    have w2 : ((-1) : Int32) ≤ v1 ∧ v1 ≤ (9 : Int32) := w1.2
    refine ok_lq (fun O9 e3 => ?_)
    have p4 : (0 : Int32) ≤ (0 : Int32) ∧ (0 : Int32) ≤ (1 : Int32) := by
      exact ⟨by grind, by grind⟩
    exact ok_some ⟨hX2, p4⟩
  · have hX2 : IV A B X2 := w1.1
    have w5 : E5 = "java/lang/IllegalStateException" := w1.2
    refine ok_ite (fun q6 => ?_) (fun q6 => ?_)
    · have p7 : (0 : Int32) ≤ (1 : Int32) ∧ (1 : Int32) ≤ (1 : Int32) := by
        exact ⟨by grind, by grind⟩
      exact ok_some ⟨hX2, p7⟩
    · exact absurd (by grind : False) id
theorem s_L_submit {A : Nat → Nat → Nat → Prop} {B : SS} (X : SS) (hX : IV A B X) (O : SS) (p1 : Int32) (p2 : Int32) (a1 : A 0 0 11) (a2 : ∀ j, 1 ≤ j → A 1 j 2) (a3 : ∀ j, A 112 j 10) (a4 : ∀ j, A 12 j 11) (a5 : ∀ j, A 12 j 12) (a6 : ∀ j, A 12 j 13) (a7 : ∀ j, A 12 j 14) (a8 : ∀ j, A 12 j 7) (a9 : ∀ j, A 12 j 8) (a10 : ∀ j, A 12 j 9) (a11 : ∀ j p, A 13 j p) (a12 : A 156 0 0) (a13 : A 16 1 4) (a14 : A 16 1 5) (a15 : A 16 1 6) (a16 : A 16 1 7) (a17 : A 16 1 8) (a18 : ∀ p, A 17 1 p) (a19 : ∀ p, A 18 1 p) (a20 : ∀ p, A 19 1 p) (a21 : ∀ j p, 1 ≤ j → A 2 j p) (a22 : ∀ p, A 20 1 p) (a23 : ∀ j p, 1 ≤ j → A 3 j p) : ok (f_L_submit X O p1 p2) (fun r => IV A B r.1 ∧ (0 : Int32) ≤ r.2.2 ∧ r.2.2 ≤ (3 : Int32)) := by
  unfold f_L_submit
  refine ok_e1 (s_X6_submit X hX p1 p2 (a1) a2 a3 a4 a5 a6 a7 a8 a9 a10 a11 (a13) (a14) (a15) (a16) (a17) (fun p => a18 p) (fun p => a19 p) (fun p => a20 p) a21 (fun p => a22 p) a23) (fun X2 v1 w1 => ?_) (fun X2 E5 w1 => ?_)
  · have hX2 : IV A B X2 := w1.1
    have w2 : ((-1) : Int32) ≤ v1 ∧ v1 ≤ (39 : Int32) := w1.2
    refine ok_lq (fun O11 e3 => ?_)
    have p4 : (0 : Int32) ≤ (0 : Int32) ∧ (0 : Int32) ≤ (3 : Int32) := by
      exact ⟨by grind, by grind⟩
    exact ok_some ⟨hX2, p4⟩
  · have hX2 : IV A B X2 := w1.1
    have w5 : E5 = "java/lang/IllegalStateException" ∨ E5 = "java/lang/IndexOutOfBoundsException" ∨ E5 = "java/lang/UnsupportedOperationException" := w1.2
    refine ok_ite (fun q6 => ?_) (fun q6 => ?_)
    · have p7 : (0 : Int32) ≤ (1 : Int32) ∧ (1 : Int32) ≤ (3 : Int32) := by
        exact ⟨by grind, by grind⟩
      exact ok_some ⟨hX2, p7⟩
    · refine ok_ite (fun q8 => ?_) (fun q8 => ?_)
      · have p9 : (0 : Int32) ≤ (2 : Int32) ∧ (2 : Int32) ≤ (3 : Int32) := by
          exact ⟨by grind, by grind⟩
        exact ok_some ⟨hX2, p9⟩
      · refine ok_ite (fun q10 => ?_) (fun q10 => ?_)
        · have p11 : (0 : Int32) ≤ (3 : Int32) ∧ (3 : Int32) ≤ (3 : Int32) := by
            exact ⟨by grind, by grind⟩
          exact ok_some ⟨hX2, p11⟩
        · exact absurd (by grind : False) id
theorem s_L_of {A : Nat → Nat → Nat → Prop} {B : SS} (X : SS) (hX : IV A B X) (O : SS) (p1 : Int32) (p2 : Int32) (a1 : A 156 0 0) : ok (f_L_of X O p1 p2) (fun r => IV A B r.1 ∧ (0 : Int32) ≤ r.2 ∧ r.2 ≤ (2 : Int32)) := by
  unfold f_L_of
  refine ok_e0 (s_X6_of X hX p1 p2) (fun v1 w1 => ?_) (fun E4 w1 => ?_)
  · refine ok_lq (fun O9 e2 => ?_)
    have p3 : (0 : Int32) ≤ (0 : Int32) ∧ (0 : Int32) ≤ (2 : Int32) := by
      exact ⟨by grind, by grind⟩
    exact ok_some p3
  · have w4 : E4 = "java/lang/IllegalArgumentException" ∨ E4 = "java/lang/IndexOutOfBoundsException" := w1
    refine ok_ite (fun q5 => ?_) (fun q5 => ?_)
    · have p6 : (0 : Int32) ≤ (1 : Int32) ∧ (1 : Int32) ≤ (2 : Int32) := by
        exact ⟨by grind, by grind⟩
      exact ok_some p6
    · refine ok_ite (fun q7 => ?_) (fun q7 => ?_)
      · have p8 : (0 : Int32) ≤ (2 : Int32) ∧ (2 : Int32) ≤ (2 : Int32) := by
          exact ⟨by grind, by grind⟩
        exact ok_some p8
      · exact absurd (by grind : False) id
theorem s_L_state {A : Nat → Nat → Nat → Prop} {B : SS} (X : SS) (hX : IV A B X) (O : SS) (p1 : Int32) (a1 : A 156 0 0) : ok (f_L_state X O p1) (fun r => IV A B r.1 ∧ (0 : Int32) ≤ r.2 ∧ r.2 ≤ (1 : Int32)) := by
  unfold f_L_state
  refine ok_e0 (s_X6_state X hX p1) (fun v1 w1 => ?_) (fun E4 w1 => ?_)
  · have w2 : (0 : Int32) ≤ v1 ∧ v1 ≤ (65535 : Int32) := w1
    refine ok_lq (fun O8 e3 => ?_)
    have p4 : (0 : Int32) ≤ (0 : Int32) ∧ (0 : Int32) ≤ (1 : Int32) := by
      exact ⟨by grind, by grind⟩
    exact ok_some p4
  · have w5 : E4 = "java/lang/IndexOutOfBoundsException" := w1
    refine ok_ite (fun q6 => ?_) (fun q6 => ?_)
    · have p7 : (0 : Int32) ≤ (1 : Int32) ∧ (1 : Int32) ≤ (1 : Int32) := by
        exact ⟨by grind, by grind⟩
      exact ok_some p7
    · exact absurd (by grind : False) id
theorem s_L_sum {A : Nat → Nat → Nat → Prop} {B : SS} (X : SS) (hX : IV A B X) (O : SS) (p1 : Int32) (a1 : A 156 0 0) : ok (f_L_sum X O p1) (fun r => IV A B r.1 ∧ (0 : Int32) ≤ r.2 ∧ r.2 ≤ (1 : Int32)) := by
  unfold f_L_sum
  refine ok_e0 (s_X6_sum X hX p1) (fun v1 w1 => ?_) (fun E4 w1 => ?_)
  · refine ok_lq (fun O8 e2 => ?_)
    have p3 : (0 : Int32) ≤ (0 : Int32) ∧ (0 : Int32) ≤ (1 : Int32) := by
      exact ⟨by grind, by grind⟩
    exact ok_some p3
  · have w4 : E4 = "java/lang/IndexOutOfBoundsException" := w1
    refine ok_ite (fun q5 => ?_) (fun q5 => ?_)
    · have p6 : (0 : Int32) ≤ (1 : Int32) ∧ (1 : Int32) ≤ (1 : Int32) := by
        exact ⟨by grind, by grind⟩
      exact ok_some p6
    · exact absurd (by grind : False) id
theorem s_L_steps {A : Nat → Nat → Nat → Prop} {B : SS} (X : SS) (hX : IV A B X) (O : SS) (p1 : Int32) (p2 : Int32) (a1 : A 156 0 0) (a2 : A 16 1 4) (a3 : A 16 1 5) (a4 : A 16 1 6) (a5 : A 16 1 7) (a6 : A 16 1 8) (a7 : ∀ p, A 17 1 p) (a8 : ∀ p, A 18 1 p) (a9 : ∀ p, A 19 1 p) (a10 : ∀ p, A 20 1 p) : ok (f_L_steps X O p1 p2) (fun r => IV A B r.1 ∧ (0 : Int32) ≤ r.2.2 ∧ r.2.2 ≤ (2 : Int32)) := by
  unfold f_L_steps
  refine ok_e1 (s_X6_steps X hX p1 p2 (a2) (a3) (a4) (a5) (a6) (fun p => a7 p) (fun p => a8 p) (fun p => a9 p) (fun p => a10 p)) (fun X2 v1 w1 => ?_) (fun X2 E5 w1 => ?_)
  · have hX2 : IV A B X2 := w1.1
    refine ok_lq (fun O10 e2 => ?_)
    have p3 : (0 : Int32) ≤ (0 : Int32) ∧ (0 : Int32) ≤ (2 : Int32) := by
      exact ⟨by grind, by grind⟩
    exact ok_some ⟨hX2, p3⟩
  · have hX2 : IV A B X2 := w1.1
    have w4 : E5 = "java/lang/IndexOutOfBoundsException" ∨ E5 = "java/util/NoSuchElementException" := w1.2
    refine ok_ite (fun q5 => ?_) (fun q5 => ?_)
    · have p6 : (0 : Int32) ≤ (1 : Int32) ∧ (1 : Int32) ≤ (2 : Int32) := by
        exact ⟨by grind, by grind⟩
      exact ok_some ⟨hX2, p6⟩
    · refine ok_ite (fun q7 => ?_) (fun q7 => ?_)
      · have p8 : (0 : Int32) ≤ (2 : Int32) ∧ (2 : Int32) ≤ (2 : Int32) := by
          exact ⟨by grind, by grind⟩
        exact ok_some ⟨hX2, p8⟩
      · exact absurd (by grind : False) id
theorem s_L_hasBody {A : Nat → Nat → Nat → Prop} {B : SS} (X : SS) (hX : IV A B X) (O : SS) (p1 : Int32) (a1 : A 156 0 0) : ok (f_L_hasBody X O p1) (fun r => IV A B r.1 ∧ (0 : Int32) ≤ r.2 ∧ r.2 ≤ (1 : Int32)) := by
  unfold f_L_hasBody
  refine ok_e0 (s_X6_hasBody X hX p1) (fun v1 w1 => ?_) (fun E4 w1 => ?_)
  · have w2 : (0 : Int32) ≤ v1 ∧ v1 ≤ (1 : Int32) := w1
    refine ok_ite (fun q3 => ?_) (fun q3 => ?_)
    · refine ok_lq (fun O9 e4 => ?_)
      have p5 : (0 : Int32) ≤ (0 : Int32) ∧ (0 : Int32) ≤ (1 : Int32) := by
        exact ⟨by grind, by grind⟩
      exact ok_some p5
    · refine ok_lq (fun O10 e6 => ?_)
      have p7 : (0 : Int32) ≤ (0 : Int32) ∧ (0 : Int32) ≤ (1 : Int32) := by
        exact ⟨by grind, by grind⟩
      exact ok_some p7
  · have w8 : E4 = "java/lang/IndexOutOfBoundsException" := w1
    refine ok_ite (fun q9 => ?_) (fun q9 => ?_)
    · have p10 : (0 : Int32) ≤ (1 : Int32) ∧ (1 : Int32) ≤ (1 : Int32) := by
        exact ⟨by grind, by grind⟩
      exact ok_some p10
    · exact absurd (by grind : False) id
theorem s_L_letter {A : Nat → Nat → Nat → Prop} {B : SS} (X : SS) (hX : IV A B X) (O : SS) (p1 : Int32) (p2 : Int32) (a1 : A 156 0 0) : ok (f_L_letter X O p1 p2) (fun r => IV A B r.1 ∧ (0 : Int32) ≤ r.2 ∧ r.2 ≤ (2 : Int32)) := by
  unfold f_L_letter
  refine ok_e0 (s_X6_letter X hX p1 p2) (fun v1 w1 => ?_) (fun E4 w1 => ?_)
  · have w2 : (0 : Int32) ≤ v1 ∧ v1 ≤ (65535 : Int32) := w1
    refine ok_lq (fun O9 e3 => ?_)
    have p4 : (0 : Int32) ≤ (0 : Int32) ∧ (0 : Int32) ≤ (2 : Int32) := by
      exact ⟨by grind, by grind⟩
    exact ok_some p4
  · have w5 : E4 = "java/lang/IndexOutOfBoundsException" ∨ E4 = "java/util/NoSuchElementException" := w1
    refine ok_ite (fun q6 => ?_) (fun q6 => ?_)
    · have p7 : (0 : Int32) ≤ (1 : Int32) ∧ (1 : Int32) ≤ (2 : Int32) := by
        exact ⟨by grind, by grind⟩
      exact ok_some p7
    · refine ok_ite (fun q8 => ?_) (fun q8 => ?_)
      · have p9 : (0 : Int32) ≤ (2 : Int32) ∧ (2 : Int32) ≤ (2 : Int32) := by
          exact ⟨by grind, by grind⟩
        exact ok_some p9
      · exact absurd (by grind : False) id
theorem s_L_drop {A : Nat → Nat → Nat → Prop} {B : SS} (X : SS) (hX : IV A B X) (O : SS) (p1 : Int32) (a1 : ∀ j, 1 ≤ j → A 1 j 2) (a2 : ∀ j, A 12 j 11) (a3 : ∀ j, A 12 j 12) (a4 : ∀ j, A 12 j 13) (a5 : ∀ j, A 12 j 14) (a6 : ∀ j p, A 13 j p) (a7 : A 156 0 0) (a8 : A 16 1 4) (a9 : A 16 1 5) (a10 : A 16 1 6) (a11 : A 16 1 7) (a12 : A 16 1 8) (a13 : ∀ p, A 17 1 p) (a14 : ∀ p, A 18 1 p) (a15 : ∀ p, A 19 1 p) (a16 : ∀ p, A 20 1 p) : ok (f_L_drop X O p1) (fun r => IV A B r.1 ∧ (0 : Int32) ≤ r.2.2 ∧ r.2.2 ≤ (2 : Int32)) := by
  unfold f_L_drop
  refine ok_e1 (s_X6_drop X hX p1 a1 a2 a3 a4 a5 a6 (a8) (a9) (a10) (a11) (a12) (fun p => a13 p) (fun p => a14 p) (fun p => a15 p) (fun p => a16 p)) (fun X2 v1 w1 => ?_) (fun X2 E5 w1 => ?_)
  · have hX2 : IV A B X2 := w1.1
    refine ok_lq (fun O10 e2 => ?_)
    have p3 : (0 : Int32) ≤ (0 : Int32) ∧ (0 : Int32) ≤ (2 : Int32) := by
      exact ⟨by grind, by grind⟩
    exact ok_some ⟨hX2, p3⟩
  · have hX2 : IV A B X2 := w1.1
    have w4 : E5 = "java/lang/IndexOutOfBoundsException" ∨ E5 = "java/lang/UnsupportedOperationException" := w1.2
    refine ok_ite (fun q5 => ?_) (fun q5 => ?_)
    · have p6 : (0 : Int32) ≤ (1 : Int32) ∧ (1 : Int32) ≤ (2 : Int32) := by
        exact ⟨by grind, by grind⟩
      exact ok_some ⟨hX2, p6⟩
    · refine ok_ite (fun q7 => ?_) (fun q7 => ?_)
      · have p8 : (0 : Int32) ≤ (2 : Int32) ∧ (2 : Int32) ≤ (2 : Int32) := by
          exact ⟨by grind, by grind⟩
        exact ok_some ⟨hX2, p8⟩
      · exact absurd (by grind : False) id
theorem s_L_capacity {A : Nat → Nat → Nat → Prop} {B : SS} (X : SS) (hX : IV A B X) (O : SS) (p1 : Int32) (a1 : A 0 0 13) (a2 : ∀ j, 1 ≤ j → A 1 j 2) (a3 : ∀ j, A 12 j 11) (a4 : ∀ j, A 12 j 12) (a5 : ∀ j, A 12 j 13) (a6 : ∀ j, A 12 j 14) (a7 : ∀ j p, A 13 j p) (a8 : A 156 0 0) (a9 : A 16 1 4) (a10 : A 16 1 5) (a11 : A 16 1 6) (a12 : A 16 1 7) (a13 : A 16 1 8) (a14 : ∀ p, A 17 1 p) (a15 : ∀ p, A 18 1 p) (a16 : ∀ p, A 19 1 p) (a17 : ∀ p, A 20 1 p) : ok (f_L_capacity X O p1) (fun r => IV A B r.1 ∧ (0 : Int32) ≤ r.2.2 ∧ r.2.2 ≤ (1 : Int32)) := by
  unfold f_L_capacity
  refine ok_e1 (s_X6_capacity X hX p1 (a1) a2 a3 a4 a5 a6 a7 (a9) (a10) (a11) (a12) (a13) (fun p => a14 p) (fun p => a15 p) (fun p => a16 p) (fun p => a17 p)) (fun X2 v1 w1 => ?_) (fun X2 E5 w1 => ?_)
  · have hX2 : IV A B X2 := w1.1
    refine ok_lq (fun O9 e2 => ?_)
    have p3 : (0 : Int32) ≤ (0 : Int32) ∧ (0 : Int32) ≤ (1 : Int32) := by
      exact ⟨by grind, by grind⟩
    exact ok_some ⟨hX2, p3⟩
  · have hX2 : IV A B X2 := w1.1
    have w4 : E5 = "java/lang/IllegalArgumentException" := w1.2
    refine ok_ite (fun q5 => ?_) (fun q5 => ?_)
    · have p6 : (0 : Int32) ≤ (1 : Int32) ∧ (1 : Int32) ≤ (1 : Int32) := by
        exact ⟨by grind, by grind⟩
      exact ok_some ⟨hX2, p6⟩
    · exact absurd (by grind : False) id
theorem s_L_read {A : Nat → Nat → Nat → Prop} {B : SS} (X : SS) (hX : IV A B X) (O : SS) (p1 : Int32) (p2 : Int32) (a1 : ∀ j, 1 ≤ j → A 1 j 2) (a2 : ∀ j p, A 11 j p) (a3 : A 156 0 0) (a4 : ∀ j p, 1 ≤ j → A 2 j p) (a5 : ∀ j p, A 210 j p) (a6 : ∀ j p, 1 ≤ j → A 3 j p) (a7 : ∀ j, A 9 j 2) : ok (f_L_read X O p1 p2) (fun r => IV A B r.1 ∧ (0 : Int32) ≤ r.2.2 ∧ r.2.2 ≤ (2 : Int32)) := by
  unfold f_L_read
  refine ok_e1 (s_X6_read X hX p1 p2 a1 a2 a4 a5 a6 a7) (fun X2 v1 w1 => ?_) (fun X2 E5 w1 => ?_)
  · have hX2 : IV A B X2 := w1.1
    have w2 : (0 : Int32) ≤ v1 ∧ v1 ≤ (3 : Int32) := w1.2
    refine ok_lq (fun O10 e3 => ?_)
    have p4 : (0 : Int32) ≤ (0 : Int32) ∧ (0 : Int32) ≤ (2 : Int32) := by
      exact ⟨by grind, by grind⟩
    exact ok_some ⟨hX2, p4⟩
  · have hX2 : IV A B X2 := w1.1
    have w5 : E5 = "java/lang/IndexOutOfBoundsException" ∨ E5 = "java/util/NoSuchElementException" := w1.2
    refine ok_ite (fun q6 => ?_) (fun q6 => ?_)
    · have p7 : (0 : Int32) ≤ (1 : Int32) ∧ (1 : Int32) ≤ (2 : Int32) := by
        exact ⟨by grind, by grind⟩
      exact ok_some ⟨hX2, p7⟩
    · refine ok_ite (fun q8 => ?_) (fun q8 => ?_)
      · have p9 : (0 : Int32) ≤ (2 : Int32) ∧ (2 : Int32) ≤ (2 : Int32) := by
          exact ⟨by grind, by grind⟩
        exact ok_some ⟨hX2, p9⟩
      · exact absurd (by grind : False) id
theorem s_L_copy {A : Nat → Nat → Nat → Prop} {B : SS} (X : SS) (hX : IV A B X) (O : SS) (p1 : Int32) (p2 : Int32) (a1 : A 156 0 0) : ok (f_L_copy X O p1 p2) (fun r => IV A B r.1 ∧ (0 : Int32) ≤ r.2 ∧ r.2 ≤ (2 : Int32)) := by
  unfold f_L_copy
  refine ok_e0 (s_X6_copy X hX p1 p2) (fun v1 w1 => ?_) (fun E4 w1 => ?_)
  · refine ok_lq (fun O9 e2 => ?_)
    have p3 : (0 : Int32) ≤ (0 : Int32) ∧ (0 : Int32) ≤ (2 : Int32) := by
      exact ⟨by grind, by grind⟩
    exact ok_some p3
  · have w4 : E4 = "java/lang/IndexOutOfBoundsException" ∨ E4 = "java/util/NoSuchElementException" := w1
    refine ok_ite (fun q5 => ?_) (fun q5 => ?_)
    · have p6 : (0 : Int32) ≤ (1 : Int32) ∧ (1 : Int32) ≤ (2 : Int32) := by
        exact ⟨by grind, by grind⟩
      exact ok_some p6
    · refine ok_ite (fun q7 => ?_) (fun q7 => ?_)
      · have p8 : (0 : Int32) ≤ (2 : Int32) ∧ (2 : Int32) ≤ (2 : Int32) := by
          exact ⟨by grind, by grind⟩
        exact ok_some p8
      · exact absurd (by grind : False) id
theorem s_L_vote {A : Nat → Nat → Nat → Prop} {B : SS} (X : SS) (hX : IV A B X) (O : SS) (p1 : Int32) (p2 : Int32) (p3 : Int32) (a1 : ∀ j, A 12 j 4) (a2 : ∀ j, A 12 j 5) (a3 : ∀ j, A 12 j 6) (a4 : ∀ j p, A 14 j p) (a5 : ∀ j p, A 15 j p) (a6 : A 156 0 0) (a7 : ∀ p, A 25 0 p) : ok (f_L_vote X O p1 p2 p3) (fun r => IV A B r.1 ∧ (0 : Int32) ≤ r.2.2 ∧ r.2.2 ≤ (3 : Int32)) := by
  unfold f_L_vote
  refine ok_e1 (s_X6_vote X hX p1 p2 p3 a1 a2 a3 a4 a5 (fun p => a7 p)) (fun X2 v1 w1 => ?_) (fun X2 E5 w1 => ?_)
  · have hX2 : IV A B X2 := w1.1
    have w2 : (1 : Int32) ≤ v1 ∧ v1 ≤ (6 : Int32) := w1.2
    refine ok_lq (fun O11 e3 => ?_)
    have p4 : (0 : Int32) ≤ (0 : Int32) ∧ (0 : Int32) ≤ (3 : Int32) := by
      exact ⟨by grind, by grind⟩
    exact ok_some ⟨hX2, p4⟩
  · have hX2 : IV A B X2 := w1.1
    have w5 : E5 = "java/lang/IllegalArgumentException" ∨ E5 = "java/lang/IndexOutOfBoundsException" ∨ E5 = "java/lang/UnsupportedOperationException" := w1.2
    refine ok_ite (fun q6 => ?_) (fun q6 => ?_)
    · have p7 : (0 : Int32) ≤ (1 : Int32) ∧ (1 : Int32) ≤ (3 : Int32) := by
        exact ⟨by grind, by grind⟩
      exact ok_some ⟨hX2, p7⟩
    · refine ok_ite (fun q8 => ?_) (fun q8 => ?_)
      · have p9 : (0 : Int32) ≤ (2 : Int32) ∧ (2 : Int32) ≤ (3 : Int32) := by
          exact ⟨by grind, by grind⟩
        exact ok_some ⟨hX2, p9⟩
      · refine ok_ite (fun q10 => ?_) (fun q10 => ?_)
        · have p11 : (0 : Int32) ≤ (3 : Int32) ∧ (3 : Int32) ≤ (3 : Int32) := by
            exact ⟨by grind, by grind⟩
          exact ok_some ⟨hX2, p11⟩
        · exact absurd (by grind : False) id
theorem s_L_style {A : Nat → Nat → Nat → Prop} {B : SS} (X : SS) (hX : IV A B X) (O : SS) (p1 : Int32) (p2 : Int32) (a1 : A 156 0 0) : ok (f_L_style X O p1 p2) (fun r => IV A B r.1 ∧ (0 : Int32) ≤ r.2 ∧ r.2 ≤ (1 : Int32)) := by
  unfold f_L_style
  refine ok_e0 (s_X6_style X hX p1 p2) (fun v1 w1 => ?_) (fun E4 w1 => ?_)
  · refine ok_lq (fun O8 e2 => ?_)
    have p3 : (0 : Int32) ≤ (0 : Int32) ∧ (0 : Int32) ≤ (1 : Int32) := by
      exact ⟨by grind, by grind⟩
    exact ok_some p3
  · have w4 : E4 = "java/lang/IndexOutOfBoundsException" := w1
    refine ok_ite (fun q5 => ?_) (fun q5 => ?_)
    · have p6 : (0 : Int32) ≤ (1 : Int32) ∧ (1 : Int32) ≤ (1 : Int32) := by
        exact ⟨by grind, by grind⟩
      exact ok_some p6
    · exact absurd (by grind : False) id
theorem s_L_review {A : Nat → Nat → Nat → Prop} {B : SS} (X : SS) (hX : IV A B X) (O : SS) (p1 : Int32) (a1 : A 156 0 0) : ok (f_L_review X O p1) (fun r => IV A B r.1 ∧ (0 : Int32) ≤ r.2 ∧ r.2 ≤ (2 : Int32)) := by
  unfold f_L_review
  refine ok_e0 (s_X6_review X hX p1) (fun v1 w1 => ?_) (fun E4 w1 => ?_)
  · have w2 : (0 : Int32) ≤ v1 ∧ v1 ≤ (39 : Int32) := w1
    refine ok_lq (fun O9 e3 => ?_)
    have p4 : (0 : Int32) ≤ (0 : Int32) ∧ (0 : Int32) ≤ (2 : Int32) := by
      exact ⟨by grind, by grind⟩
    exact ok_some p4
  · have w5 : E4 = "java/lang/IndexOutOfBoundsException" ∨ E4 = "java/util/NoSuchElementException" := w1
    refine ok_ite (fun q6 => ?_) (fun q6 => ?_)
    · have p7 : (0 : Int32) ≤ (1 : Int32) ∧ (1 : Int32) ≤ (2 : Int32) := by
        exact ⟨by grind, by grind⟩
      exact ok_some p7
    · refine ok_ite (fun q8 => ?_) (fun q8 => ?_)
      · have p9 : (0 : Int32) ≤ (2 : Int32) ∧ (2 : Int32) ≤ (2 : Int32) := by
          exact ⟨by grind, by grind⟩
        exact ok_some p9
      · exact absurd (by grind : False) id
theorem s_L_best {A : Nat → Nat → Nat → Prop} {B : SS} (X : SS) (hX : IV A B X) (O : SS) (p1 : Int32) (p2 : Int32) (a1 : A 156 0 0) (a2 : ∀ p, A 25 0 p) : ok (f_L_best X O p1 p2) (fun r => IV A B r.1 ∧ (0 : Int32) ≤ r.2.2 ∧ r.2.2 ≤ (2 : Int32)) := by
  unfold f_L_best
  refine ok_e1 (s_X6_best X hX p1 p2 (fun p => a2 p)) (fun X2 v1 w1 => ?_) (fun X2 E5 w1 => ?_)
  · have hX2 : IV A B X2 := w1.1
    have w2 : (0 : Int32) ≤ v1 ∧ v1 ≤ (39 : Int32) := w1.2
    refine ok_lq (fun O10 e3 => ?_)
    have p4 : (0 : Int32) ≤ (0 : Int32) ∧ (0 : Int32) ≤ (2 : Int32) := by
      exact ⟨by grind, by grind⟩
    exact ok_some ⟨hX2, p4⟩
  · have hX2 : IV A B X2 := w1.1
    have w5 : E5 = "java/lang/IndexOutOfBoundsException" ∨ E5 = "java/util/NoSuchElementException" := w1.2
    refine ok_ite (fun q6 => ?_) (fun q6 => ?_)
    · have p7 : (0 : Int32) ≤ (1 : Int32) ∧ (1 : Int32) ≤ (2 : Int32) := by
        exact ⟨by grind, by grind⟩
      exact ok_some ⟨hX2, p7⟩
    · refine ok_ite (fun q8 => ?_) (fun q8 => ?_)
      · have p9 : (0 : Int32) ≤ (2 : Int32) ∧ (2 : Int32) ≤ (2 : Int32) := by
          exact ⟨by grind, by grind⟩
        exact ok_some ⟨hX2, p9⟩
      · exact absurd (by grind : False) id
theorem s_L_points {A : Nat → Nat → Nat → Prop} {B : SS} (X : SS) (hX : IV A B X) (O : SS) (p1 : Int32) (a1 : ∀ p, A 25 0 p) : ok (f_L_points X O p1) (fun r => IV A B r.1 ∧ (0 : Int32) ≤ r.2.2 ∧ r.2.2 ≤ (1 : Int32)) := by
  unfold f_L_points
  refine ok_e1 (s_X6_points X hX p1 (fun p => a1 p)) (fun X2 v1 w1 => ?_) (fun X2 E5 w1 => ?_)
  · have hX2 : IV A B X2 := w1.1
    have nv1 : vf_n32 v1 := w1.2
    refine ok_gd ?_ (fun g2 => ?_)
    · exact nn_f2d nv1
    refine ok_lq (fun O10 e3 => ?_)
    have p4 : (0 : Int32) ≤ (0 : Int32) ∧ (0 : Int32) ≤ (1 : Int32) := by
      exact ⟨by grind, by grind⟩
    exact ok_some ⟨hX2, p4⟩
  · have hX2 : IV A B X2 := w1.1
    have w5 : E5 = "java/lang/IndexOutOfBoundsException" := w1.2
    refine ok_ite (fun q6 => ?_) (fun q6 => ?_)
    · have p7 : (0 : Int32) ≤ (1 : Int32) ∧ (1 : Int32) ≤ (1 : Int32) := by
        exact ⟨by grind, by grind⟩
      exact ok_some ⟨hX2, p7⟩
    · exact absurd (by grind : False) id
theorem s_L_belt {A : Nat → Nat → Nat → Prop} {B : SS} (X : SS) (hX : IV A B X) (O : SS) (p1 : Int32) (a1 : A 156 0 0) (a2 : ∀ p, A 25 0 p) : ok (f_L_belt X O p1) (fun r => IV A B r.1 ∧ (0 : Int32) ≤ r.2.2 ∧ r.2.2 ≤ (1 : Int32)) := by
  unfold f_L_belt
  refine ok_e1 (s_X6_belt X hX p1 (fun p => a2 p)) (fun X2 v1 w1 => ?_) (fun X2 E5 w1 => ?_)
  · have hX2 : IV A B X2 := w1.1
    have w2 : (0 : Int32) ≤ v1 ∧ v1 ≤ (5 : Int32) := w1.2
    refine ok_lq (fun O9 e3 => ?_)
    have p4 : (0 : Int32) ≤ (0 : Int32) ∧ (0 : Int32) ≤ (1 : Int32) := by
      exact ⟨by grind, by grind⟩
    exact ok_some ⟨hX2, p4⟩
  · have hX2 : IV A B X2 := w1.1
    have w5 : E5 = "java/lang/IndexOutOfBoundsException" := w1.2
    refine ok_ite (fun q6 => ?_) (fun q6 => ?_)
    · have p7 : (0 : Int32) ≤ (1 : Int32) ∧ (1 : Int32) ≤ (1 : Int32) := by
        exact ⟨by grind, by grind⟩
      exact ok_some ⟨hX2, p7⟩
    · exact absurd (by grind : False) id
theorem s_L_honour {A : Nat → Nat → Nat → Prop} {B : SS} (X : SS) (hX : IV A B X) (O : SS) (p1 : Int32) (a1 : A 156 0 0) : ok (f_L_honour X O p1) (fun r => IV A B r.1 ∧ (0 : Int32) ≤ r.2 ∧ r.2 ≤ (1 : Int32)) := by
  unfold f_L_honour
  refine ok_e0 (s_X6_honour X hX p1) (fun v1 w1 => ?_) (fun E4 w1 => ?_)
  · refine ok_lq (fun O8 e2 => ?_)
    have p3 : (0 : Int32) ≤ (0 : Int32) ∧ (0 : Int32) ≤ (1 : Int32) := by
      exact ⟨by grind, by grind⟩
    exact ok_some p3
  · have w4 : E4 = "java/lang/IndexOutOfBoundsException" := w1
    refine ok_ite (fun q5 => ?_) (fun q5 => ?_)
    · have p6 : (0 : Int32) ≤ (1 : Int32) ∧ (1 : Int32) ≤ (1 : Int32) := by
        exact ⟨by grind, by grind⟩
      exact ok_some p6
    · exact absurd (by grind : False) id
theorem s_L_ranked {A : Nat → Nat → Nat → Prop} {B : SS} (X : SS) (hX : IV A B X) (O : SS) (p1 : Int32) (a1 : A 156 0 0) (a2 : ∀ p, A 25 0 p) : ok (f_L_ranked X O p1) (fun r => IV A B r.1 ∧ (0 : Int32) ≤ r.2.2 ∧ r.2.2 ≤ (1 : Int32)) := by
  unfold f_L_ranked
  refine ok_e1 (s_X6_ranked X hX p1 (fun p => a2 p)) (fun X2 v1 w1 => ?_) (fun X2 E5 w1 => ?_)
  · have hX2 : IV A B X2 := w1.1
    have w2 : (0 : Int32) ≤ v1 ∧ v1 ≤ (9 : Int32) := w1.2
    refine ok_lq (fun O9 e3 => ?_)
    have p4 : (0 : Int32) ≤ (0 : Int32) ∧ (0 : Int32) ≤ (1 : Int32) := by
      exact ⟨by grind, by grind⟩
    exact ok_some ⟨hX2, p4⟩
  · have hX2 : IV A B X2 := w1.1
    have w5 : E5 = "java/util/NoSuchElementException" := w1.2
    refine ok_ite (fun q6 => ?_) (fun q6 => ?_)
    · have p7 : (0 : Int32) ≤ (1 : Int32) ∧ (1 : Int32) ≤ (1 : Int32) := by
        exact ⟨by grind, by grind⟩
      exact ok_some ⟨hX2, p7⟩
    · exact absurd (by grind : False) id
theorem s_L_challenge {A : Nat → Nat → Nat → Prop} {B : SS} (X : SS) (hX : IV A B X) (O : SS) (p1 : Int32) (p2 : Int32) (a1 : A 0 0 12) (a2 : ∀ j, A 12 j 11) (a3 : ∀ j, A 12 j 15) (a4 : ∀ j, A 12 j 16) (a5 : A 156 0 0) (a6 : ∀ p, A 24 0 p) (a7 : ∀ j, A 9 j 3) : ok (f_L_challenge X O p1 p2) (fun r => IV A B r.1 ∧ (0 : Int32) ≤ r.2.2 ∧ r.2.2 ≤ (3 : Int32)) := by
  unfold f_L_challenge
  refine ok_e1 (s_X6_challenge X hX p1 p2 (a1) a2 a3 a4 (fun p => a6 p) a7) (fun X2 v1 w1 => ?_) (fun X2 E5 w1 => ?_)
  · have hX2 : IV A B X2 := w1.1
    have w2 : (0 : Int32) ≤ v1 ∧ v1 ≤ (8 : Int32) := w1.2
    refine ok_lq (fun O11 e3 => ?_)
    have p4 : (0 : Int32) ≤ (0 : Int32) ∧ (0 : Int32) ≤ (3 : Int32) := by
      exact ⟨by grind, by grind⟩
    exact ok_some ⟨hX2, p4⟩
  · have hX2 : IV A B X2 := w1.1
    have w5 : E5 = "java/lang/IllegalStateException" ∨ E5 = "java/lang/IndexOutOfBoundsException" ∨ E5 = "java/lang/UnsupportedOperationException" := w1.2
    refine ok_ite (fun q6 => ?_) (fun q6 => ?_)
    · have p7 : (0 : Int32) ≤ (1 : Int32) ∧ (1 : Int32) ≤ (3 : Int32) := by
        exact ⟨by grind, by grind⟩
      exact ok_some ⟨hX2, p7⟩
    · refine ok_ite (fun q8 => ?_) (fun q8 => ?_)
      · have p9 : (0 : Int32) ≤ (2 : Int32) ∧ (2 : Int32) ≤ (3 : Int32) := by
          exact ⟨by grind, by grind⟩
        exact ok_some ⟨hX2, p9⟩
      · refine ok_ite (fun q10 => ?_) (fun q10 => ?_)
        · have p11 : (0 : Int32) ≤ (3 : Int32) ∧ (3 : Int32) ≤ (3 : Int32) := by
            exact ⟨by grind, by grind⟩
          exact ok_some ⟨hX2, p11⟩
        · exact absurd (by grind : False) id
theorem s_L_give {A : Nat → Nat → Nat → Prop} {B : SS} (X : SS) (hX : IV A B X) (O : SS) (p1 : Int32) (p2 : Int32) (a1 : A 0 0 12) (a2 : ∀ j, 1 ≤ j → A 1 j 2) (a3 : ∀ j, A 12 j 11) (a4 : ∀ j, A 12 j 12) (a5 : ∀ j, A 12 j 13) (a6 : ∀ j, A 12 j 14) (a7 : ∀ j p, A 13 j p) (a8 : A 156 0 0) (a9 : A 16 1 4) (a10 : A 16 1 5) (a11 : A 16 1 6) (a12 : A 16 1 7) (a13 : A 16 1 8) (a14 : ∀ p, A 17 1 p) (a15 : ∀ p, A 18 1 p) (a16 : ∀ p, A 19 1 p) (a17 : ∀ j p, 1 ≤ j → A 2 j p) (a18 : ∀ p, A 20 1 p) (a19 : ∀ p, A 24 0 p) (a20 : ∀ j p, 1 ≤ j → A 3 j p) (a21 : ∀ j, A 9 j 3) : ok (f_L_give X O p1 p2) (fun r => IV A B r.1 ∧ (0 : Int32) ≤ r.2.2 ∧ r.2.2 ≤ (3 : Int32)) := by
  unfold f_L_give
  refine ok_e1 (s_X6_give X hX p1 p2 (a1) a2 a3 a4 a5 a6 a7 (a9) (a10) (a11) (a12) (a13) (fun p => a14 p) (fun p => a15 p) (fun p => a16 p) a17 (fun p => a18 p) (fun p => a19 p) a20 a21) (fun X2 v1 w1 => ?_) (fun X2 E5 w1 => ?_)
  · have hX2 : IV A B X2 := w1.1
    have w2 : (98 : Int32) ≤ v1 ∧ v1 ≤ (115 : Int32) := w1.2
    refine ok_lq (fun O11 e3 => ?_)
    have p4 : (0 : Int32) ≤ (0 : Int32) ∧ (0 : Int32) ≤ (3 : Int32) := by
      exact ⟨by grind, by grind⟩
    exact ok_some ⟨hX2, p4⟩
  · have hX2 : IV A B X2 := w1.1
    have w5 : E5 = "java/lang/IndexOutOfBoundsException" ∨ E5 = "java/lang/UnsupportedOperationException" ∨ E5 = "java/util/NoSuchElementException" := w1.2
    refine ok_ite (fun q6 => ?_) (fun q6 => ?_)
    · have p7 : (0 : Int32) ≤ (1 : Int32) ∧ (1 : Int32) ≤ (3 : Int32) := by
        exact ⟨by grind, by grind⟩
      exact ok_some ⟨hX2, p7⟩
    · refine ok_ite (fun q8 => ?_) (fun q8 => ?_)
      · have p9 : (0 : Int32) ≤ (2 : Int32) ∧ (2 : Int32) ≤ (3 : Int32) := by
          exact ⟨by grind, by grind⟩
        exact ok_some ⟨hX2, p9⟩
      · refine ok_ite (fun q10 => ?_) (fun q10 => ?_)
        · have p11 : (0 : Int32) ≤ (3 : Int32) ∧ (3 : Int32) ≤ (3 : Int32) := by
            exact ⟨by grind, by grind⟩
          exact ok_some ⟨hX2, p11⟩
        · exact absurd (by grind : False) id
theorem s_L_answer {A : Nat → Nat → Nat → Prop} {B : SS} (X : SS) (hX : IV A B X) (O : SS) (p1 : Int32) (p2 : Int32) (a1 : A 0 0 12) (a2 : ∀ j, 1 ≤ j → A 1 j 2) (a3 : ∀ j, A 12 j 11) (a4 : ∀ j, A 12 j 12) (a5 : ∀ j, A 12 j 13) (a6 : ∀ j, A 12 j 14) (a7 : ∀ j p, A 13 j p) (a8 : A 156 0 0) (a9 : A 16 1 4) (a10 : A 16 1 5) (a11 : A 16 1 6) (a12 : A 16 1 7) (a13 : A 16 1 8) (a14 : ∀ p, A 17 1 p) (a15 : ∀ p, A 18 1 p) (a16 : ∀ p, A 19 1 p) (a17 : ∀ j p, 1 ≤ j → A 2 j p) (a18 : ∀ p, A 20 1 p) (a19 : ∀ p, A 24 0 p) (a20 : ∀ j p, 1 ≤ j → A 3 j p) (a21 : ∀ j, A 9 j 3) : ok (f_L_answer X O p1 p2) (fun r => IV A B r.1 ∧ (0 : Int32) ≤ r.2.2 ∧ r.2.2 ≤ (2 : Int32)) := by
  unfold f_L_answer
  refine ok_e1 (s_X6_answer X hX p1 p2 (a1) a2 a3 a4 a5 a6 a7 (a9) (a10) (a11) (a12) (a13) (fun p => a14 p) (fun p => a15 p) (fun p => a16 p) a17 (fun p => a18 p) (fun p => a19 p) a20 a21) (fun X2 v1 w1 => ?_) (fun X2 E5 w1 => ?_)
  · have hX2 : IV A B X2 := w1.1
    have w2 : (45 : Int32) ≤ v1 ∧ v1 ≤ (115 : Int32) := w1.2
    refine ok_lq (fun O10 e3 => ?_)
    have p4 : (0 : Int32) ≤ (0 : Int32) ∧ (0 : Int32) ≤ (2 : Int32) := by
      exact ⟨by grind, by grind⟩
    exact ok_some ⟨hX2, p4⟩
  · have hX2 : IV A B X2 := w1.1
    have w5 : E5 = "java/lang/IndexOutOfBoundsException" ∨ E5 = "java/lang/UnsupportedOperationException" := w1.2
    refine ok_ite (fun q6 => ?_) (fun q6 => ?_)
    · have p7 : (0 : Int32) ≤ (1 : Int32) ∧ (1 : Int32) ≤ (2 : Int32) := by
        exact ⟨by grind, by grind⟩
      exact ok_some ⟨hX2, p7⟩
    · refine ok_ite (fun q8 => ?_) (fun q8 => ?_)
      · have p9 : (0 : Int32) ≤ (2 : Int32) ∧ (2 : Int32) ≤ (2 : Int32) := by
          exact ⟨by grind, by grind⟩
        exact ok_some ⟨hX2, p9⟩
      · exact absurd (by grind : False) id
theorem s_L_open {A : Nat → Nat → Nat → Prop} {B : SS} (X : SS) (hX : IV A B X) (O : SS) (p1 : Int32) (a1 : A 156 0 0) : ok (f_L_open X O p1) (fun r => IV A B r.1 ∧ (0 : Int32) ≤ r.2 ∧ r.2 ≤ (1 : Int32)) := by
  unfold f_L_open
  refine ok_e0 (s_X6_open X hX p1) (fun v1 w1 => ?_) (fun E4 w1 => ?_)
  · have w2 : (0 : Int32) ≤ v1 ∧ v1 ≤ (39 : Int32) := w1
    refine ok_lq (fun O8 e3 => ?_)
    have p4 : (0 : Int32) ≤ (0 : Int32) ∧ (0 : Int32) ≤ (1 : Int32) := by
      exact ⟨by grind, by grind⟩
    exact ok_some p4
  · have w5 : E4 = "java/util/NoSuchElementException" := w1
    refine ok_ite (fun q6 => ?_) (fun q6 => ?_)
    · have p7 : (0 : Int32) ≤ (1 : Int32) ∧ (1 : Int32) ≤ (1 : Int32) := by
        exact ⟨by grind, by grind⟩
      exact ok_some p7
    · exact absurd (by grind : False) id
theorem s_L_left {A : Nat → Nat → Nat → Prop} {B : SS} (X : SS) (hX : IV A B X) (O : SS) (p1 : Int32) (a1 : A 156 0 0) : ok (f_L_left X O p1) (fun r => IV A B r.1 ∧ (0 : Int32) ≤ r.2 ∧ r.2 ≤ (2 : Int32)) := by
  unfold f_L_left
  refine ok_e0 (s_X6_left X hX p1) (fun v1 w1 => ?_) (fun E4 w1 => ?_)
  · refine ok_lq (fun O9 e2 => ?_)
    have p3 : (0 : Int32) ≤ (0 : Int32) ∧ (0 : Int32) ≤ (2 : Int32) := by
      exact ⟨by grind, by grind⟩
    exact ok_some p3
  · have w4 : E4 = "java/lang/IndexOutOfBoundsException" ∨ E4 = "java/lang/UnsupportedOperationException" := w1
    refine ok_ite (fun q5 => ?_) (fun q5 => ?_)
    · have p6 : (0 : Int32) ≤ (1 : Int32) ∧ (1 : Int32) ≤ (2 : Int32) := by
        exact ⟨by grind, by grind⟩
      exact ok_some p6
    · refine ok_ite (fun q7 => ?_) (fun q7 => ?_)
      · have p8 : (0 : Int32) ≤ (2 : Int32) ∧ (2 : Int32) ≤ (2 : Int32) := by
          exact ⟨by grind, by grind⟩
        exact ok_some p8
      · exact absurd (by grind : False) id
theorem s_L_days {A : Nat → Nat → Nat → Prop} {B : SS} (X : SS) (hX : IV A B X) (O : SS) (p1 : Int32) (a1 : A 0 0 12) (a2 : ∀ j, A 12 j 11) (a3 : ∀ j, A 12 j 16) (a4 : A 156 0 0) (a5 : ∀ p, A 24 0 p) (a6 : ∀ j, A 9 j 3) : ok (f_L_days X O p1) (fun r => IV A B r.1 ∧ (0 : Int32) ≤ r.2.2 ∧ r.2.2 ≤ (1 : Int32)) := by
  unfold f_L_days
  refine ok_e1 (s_X6_days X hX p1 (a1) a2 a3 (fun p => a5 p) a6) (fun X2 v1 w1 => ?_) (fun X2 E5 w1 => ?_)
  · have hX2 : IV A B X2 := w1.1
    refine ok_lq (fun O9 e2 => ?_)
    have p3 : (0 : Int32) ≤ (0 : Int32) ∧ (0 : Int32) ≤ (1 : Int32) := by
      exact ⟨by grind, by grind⟩
    exact ok_some ⟨hX2, p3⟩
  · have hX2 : IV A B X2 := w1.1
    have w4 : E5 = "java/lang/IllegalArgumentException" := w1.2
    refine ok_ite (fun q5 => ?_) (fun q5 => ?_)
    · have p6 : (0 : Int32) ≤ (1 : Int32) ∧ (1 : Int32) ≤ (1 : Int32) := by
        exact ⟨by grind, by grind⟩
      exact ok_some ⟨hX2, p6⟩
    · exact absurd (by grind : False) id
theorem s_L_standingShare {A : Nat → Nat → Nat → Prop} {B : SS} (X : SS) (hX : IV A B X) (O : SS) : ok (f_L_standingShare X O) (fun r => IV A B r.1 ∧ (0 : Int32) ≤ r.2 ∧ r.2 ≤ (1 : Int32)) := by
  unfold f_L_standingShare
  refine ok_e0 (s_X6_standingShare X hX) (fun v1 w1 => ?_) (fun E4 w1 => ?_)
  · have nv1 : vf_n32 v1 := w1
    refine ok_gd ?_ (fun g2 => ?_)
    · exact nn_f2d nv1
    refine ok_lq (fun O9 e3 => ?_)
    have p4 : (0 : Int32) ≤ (0 : Int32) ∧ (0 : Int32) ≤ (1 : Int32) := by
      exact ⟨by grind, by grind⟩
    exact ok_some p4
  · have w5 : E4 = "java/lang/ArithmeticException" := w1
    refine ok_ite (fun q6 => ?_) (fun q6 => ?_)
    · have p7 : (0 : Int32) ≤ (1 : Int32) ∧ (1 : Int32) ≤ (1 : Int32) := by
        exact ⟨by grind, by grind⟩
      exact ok_some p7
    · exact absurd (by grind : False) id
theorem s_L_meanSteps {A : Nat → Nat → Nat → Prop} {B : SS} (X : SS) (hX : IV A B X) (O : SS) (p1 : Int32) (a1 : A 16 1 4) (a2 : A 16 1 5) (a3 : A 16 1 6) (a4 : A 16 1 7) (a5 : A 16 1 8) (a6 : ∀ p, A 17 1 p) (a7 : ∀ p, A 18 1 p) (a8 : ∀ p, A 19 1 p) (a9 : ∀ p, A 20 1 p) : ok (f_L_meanSteps X O p1) (fun r => IV A B r.1 ∧ (0 : Int32) ≤ r.2.2 ∧ r.2.2 ≤ (2 : Int32)) := by
  unfold f_L_meanSteps
  refine ok_e1 (s_X6_meanSteps X hX p1 (a1) (a2) (a3) (a4) (a5) (fun p => a6 p) (fun p => a7 p) (fun p => a8 p) (fun p => a9 p)) (fun X2 v1 w1 => ?_) (fun X2 E5 w1 => ?_)
  · have hX2 : IV A B X2 := w1.1
    have nv1 : vf_n64 v1 := w1.2
    refine ok_lq (fun O10 e2 => ?_)
    have p3 : (0 : Int32) ≤ (0 : Int32) ∧ (0 : Int32) ≤ (2 : Int32) := by
      exact ⟨by grind, by grind⟩
    exact ok_some ⟨hX2, p3⟩
  · have hX2 : IV A B X2 := w1.1
    have w4 : E5 = "java/lang/ArithmeticException" ∨ E5 = "java/lang/IndexOutOfBoundsException" := w1.2
    refine ok_ite (fun q5 => ?_) (fun q5 => ?_)
    · have p6 : (0 : Int32) ≤ (1 : Int32) ∧ (1 : Int32) ≤ (2 : Int32) := by
        exact ⟨by grind, by grind⟩
      exact ok_some ⟨hX2, p6⟩
    · refine ok_ite (fun q7 => ?_) (fun q7 => ?_)
      · have p8 : (0 : Int32) ≤ (2 : Int32) ∧ (2 : Int32) ≤ (2 : Int32) := by
          exact ⟨by grind, by grind⟩
        exact ok_some ⟨hX2, p8⟩
      · exact absurd (by grind : False) id