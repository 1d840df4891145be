theorem s_X7_bestOf {A : Nat → Nat → Nat → Prop} {B : SS} (M : SS) (hM : IV A B M) (p0 : Int32) (p1 : Int32) (ip1 : (0 : Int32) ≤ p1 ∧ p1 ≤ (7 : Int32)) : ok (f_X7_bestOf M p0 p1) (fun r => ((-1) : Int32) ≤ r ∧ r ≤ (39 : Int32)) := by
  unfold f_X7_bestOf
  have p1 : (0 : Int32) ≤ p1 ∧ p1 ≤ (7 : Int32) := by
    exact ⟨by grind, by grind⟩
  have p2 : FU (0 : Int32) 40 1000 := by
    exact FU.start (by grind) (by decide)
  refine s_X7_bestOf_L5 M hM p0 p1 p1 1000 (0 : Int32) ((-1) : Int32) _ p2 ⟨by decide, by decide⟩ ⟨by decide, by decide⟩ (fun v2 wv2 => ?_)
  have wv2 : ((-1) : Int32) ≤ v2 ∧ v2 ≤ (39 : Int32) := wv2
  have p3 : ((-1) : Int32) ≤ v2 ∧ v2 ≤ (39 : Int32) := by
    exact ⟨by grind, by grind⟩
  exact ok_some p3
theorem s_X7_pointsOf_L4 {A : Nat → Nat → Nat → Prop} {B : SS} (M : SS) (hM : IV A B M) (p0 : Int32) : ∀ (n : Nat), ∀ (v4 : Int32) (v5 : UInt32) (k2 : (UInt32 → Option (UInt32))), (FU v4 8 n) → ((0 : Int32) ≤ v4 ∧ v4 ≤ (8 : Int32)) → (vf_n32 v5) → (∀ (k_0 : UInt32), (vf_n32 k_0) → ok (k2 k_0) (fun r => vf_n32 r)) → ok (f_X7_pointsOf_L4 M p0 n v4 v5 k2) (fun r => vf_n32 r) := by
  intro n
  induction n with
  | zero =>
    intro v4 v5 k2 hF iv4 nv5 hk
    exact (FU.stop hF (show v4 ≤ (8 : Int32) by grind)).elim
  | succ n ih =>
    intro v4 v5 k2 hF iv4 nv5 hk
    rw [f_X7_pointsOf_L4]
    refine ok_ite (fun q1 => ?_) (fun q1 => ?_)
    · exact hk v5 nv5
    · have p2 : (0 : Int32) ≤ v4 ∧ v4 ≤ (7 : Int32) := by
        have c3 : (0 : Int32) ≤ (M.1 26 0 3) ∧ (M.1 26 0 3) ≤ (8 : Int32) := hM.at1 26 0 3
        exact ⟨by grind, by grind⟩
      refine ok_b0 (s_X7_bestOf M hM p0 v4 p2) (fun v7 w4 => ?_)
      have w5 : ((-1) : Int32) ≤ v7 ∧ v7 ≤ (39 : Int32) := w4
      refine ok_ite (fun q6 => ?_) (fun q6 => ?_)
      · have p7 : FU (v4 + (1 : Int32)) 8 _ := by
          have c8 : (0 : Int32) ≤ (M.1 26 0 3) ∧ (M.1 26 0 3) ≤ (8 : Int32) := hM.at1 26 0 3
          exact FU.step hF (by grind)
        have p9 : (0 : Int32) ≤ (v4 + (1 : Int32)) ∧ (v4 + (1 : Int32)) ≤ (8 : Int32) := by
          have c10 : (0 : Int32) ≤ (M.1 26 0 3) ∧ (M.1 26 0 3) ≤ (8 : Int32) := hM.at1 26 0 3
          exact ⟨by grind, by grind⟩
        exact ih (v4 + (1 : Int32)) v5 k2 p7 p9 nv5 hk
      · have p11 : (0 : Int32) ≤ v7 ∧ v7 ≤ (39 : Int32) := by
          exact ⟨by grind, by grind⟩
        refine ok_b0 (s_X7_weightOf M hM v7 p11) (fun v10 w12 => ?_)
        have w13 : ((0 : Int32) ≤ v10 ∧ v10 ≤ (60 : Int32)) := w12
        refine ok_ite (fun q14 => ?_) (fun q14 => ?_)
        · refine ok_gd ?_ (fun g15 => ?_)
          · have c16 : (0 : Int32) ≤ (M.1 26 0 3) ∧ (M.1 26 0 3) ≤ (8 : Int32) := hM.at1 26 0 3
            exact vp_of (by decide) (by grind) (show v4 < (8 : Int32) by grind)
          have g15 := vp_to (by decide) g15
          have g15 : (0 : Int32) ≤ v4 ∧ v4 < (8 : Int32) := g15
          refine ok_gd ?_ (fun g17 => ?_)
          · exact nn_addi nv5
          refine ok_lq (fun v21 e18 => ?_)
          have nv21 : vf_n32 v21 := by rw [e18]; exact nn_addi nv5
          have p19 : FU (v4 + (1 : Int32)) 8 _ := by
            have c20 : (0 : Int32) ≤ (M.1 26 0 3) ∧ (M.1 26 0 3) ≤ (8 : Int32) := hM.at1 26 0 3
            exact FU.step hF (by grind)
          have p21 : (0 : Int32) ≤ (v4 + (1 : Int32)) ∧ (v4 + (1 : Int32)) ≤ (8 : Int32) := by
            have c22 : (0 : Int32) ≤ (M.1 26 0 3) ∧ (M.1 26 0 3) ≤ (8 : Int32) := hM.at1 26 0 3
            exact ⟨by grind, by grind⟩
          exact ih (v4 + (1 : Int32)) v21 k2 p19 p21 nv21 hk
        · refine ok_gd ?_ (fun g23 => ?_)
          · have c24 : (0 : Int32) ≤ (M.1 26 0 3) ∧ (M.1 26 0 3) ≤ (8 : Int32) := hM.at1 26 0 3
            exact vp_of (by decide) (by grind) (show v4 < (8 : Int32) by grind)
          have g23 := vp_to (by decide) g23
          have g23 : (0 : Int32) ≤ v4 ∧ v4 < (8 : Int32) := g23
          have p25 : (0 : Int32) ≤ v7 ∧ v7 ≤ (39 : Int32) := by
            exact ⟨by grind, by grind⟩
          refine ok_b0 (s_X7_weighed M hM v7 p25) (fun v14 w26 => ?_)
          refine ok_gd ?_ (fun g27 => ?_)
          · have z28 : ¬ (v10 = 0) := by
              grind
            exact nn_fdiv z28
          refine ok_gd ?_ (fun g29 => ?_)
          · have z30 : ¬ (v10 = 0) := by
              grind
            exact nn_addq nv5 z30
          refine ok_lq (fun v18 e31 => ?_)
          have nv18 : vf_n32 v18 := by rw [e31]; exact nn_addq nv5 z30
          have p32 : FU (v4 + (1 : Int32)) 8 _ := by
            have c33 : (0 : Int32) ≤ (M.1 26 0 3) ∧ (M.1 26 0 3) ≤ (8 : Int32) := hM.at1 26 0 3
            exact FU.step hF (by grind)
          have p34 : (0 : Int32) ≤ (v4 + (1 : Int32)) ∧ (v4 + (1 : Int32)) ≤ (8 : Int32) := by
            have c35 : (0 : Int32) ≤ (M.1 26 0 3) ∧ (M.1 26 0 3) ≤ (8 : Int32) := hM.at1 26 0 3
            exact ⟨by grind, by grind⟩
          exact ih (v4 + (1 : Int32)) v18 k2 p32 p34 nv18 hk
theorem s_X7_pointsOf {A : Nat → Nat → Nat → Prop} {B : SS} (M : SS) (hM : IV A B M) (p0 : Int32) : ok (f_X7_pointsOf M p0) (fun r => vf_n32 r) := by
  unfold f_X7_pointsOf
  refine ok_lq (fun v1 e1 => ?_)
  have nv1 : vf_n32 v1 := by rw [e1]; exact nn_f0
  have p2 : FU (0 : Int32) 8 1000 := by
    exact FU.start (by grind) (by decide)
  refine s_X7_pointsOf_L4 M hM p0 1000 (0 : Int32) v1 _ p2 ⟨by decide, by decide⟩ nv1 (fun v3 nv3 => ?_)
  exact ok_some nv3
theorem s_X7_beltOf_L48 (v2 : Int32) (v5 : UInt32) (nv5 : vf_n32 v5) : ∀ (n : Nat), ∀ (v9 : Int32) (v10 : Int32) (k7 : (Int32 → Option (Int32))), (FU v9 6 n) → ((1 : Int32) ≤ v9 ∧ v9 ≤ (6 : Int32)) → ((0 : Int32) ≤ v10 ∧ v10 ≤ (5 : Int32)) → (∀ (k_0 : Int32), ((0 : Int32) ≤ k_0 ∧ k_0 ≤ (5 : Int32)) → ok (k7 k_0) (fun r => (0 : Int32) ≤ r ∧ r ≤ (5 : Int32))) → ok (f_X7_beltOf_L48 v2 v5 n v9 v10 k7) (fun r => (0 : Int32) ≤ r ∧ r ≤ (5 : Int32)) := by
  intro n
  induction n with
  | zero =>
    intro v9 v10 k7 hF iv9 iv10 hk
    exact (FU.stop hF (show v9 ≤ (6 : Int32) by grind)).elim
  | succ n ih =>
    intro v9 v10 k7 hF iv9 iv10 hk
    rw [f_X7_beltOf_L48]
    refine ok_ite (fun q1 => ?_) (fun q1 => ?_)
    · have p2 : (0 : Int32) ≤ v10 ∧ v10 ≤ (5 : Int32) := by
        exact ⟨by grind, by grind⟩
      exact hk v10 p2
    · refine ok_ite (fun q3 => ?_) (fun q3 => ?_)
      · have p4 : FU (v9 + (1 : Int32)) 6 _ := by
          exact FU.step hF (by grind)
        have p5 : (1 : Int32) ≤ (v9 + (1 : Int32)) ∧ (v9 + (1 : Int32)) ≤ (6 : Int32) := by
          exact ⟨by grind, by grind⟩
        have p6 : (0 : Int32) ≤ v10 ∧ v10 ≤ (5 : Int32) := by
          exact ⟨by grind, by grind⟩
        exact ih (v9 + (1 : Int32)) v10 k7 p4 p5 p6 hk
      · refine ok_ite (fun q7 => ?_) (fun q7 => ?_)
        · have p8 : FU (v9 + (1 : Int32)) 6 _ := by
            exact FU.step hF (by grind)
          have p9 : (1 : Int32) ≤ (v9 + (1 : Int32)) ∧ (v9 + (1 : Int32)) ≤ (6 : Int32) := by
            exact ⟨by grind, by grind⟩
          have p10 : (0 : Int32) ≤ v10 ∧ v10 ≤ (5 : Int32) := by
            exact ⟨by grind, by grind⟩
          exact ih (v9 + (1 : Int32)) v10 k7 p8 p9 p10 hk
        · have p11 : FU (v9 + (1 : Int32)) 6 _ := by
            exact FU.step hF (by grind)
          have p12 : (1 : Int32) ≤ (v9 + (1 : Int32)) ∧ (v9 + (1 : Int32)) ≤ (6 : Int32) := by
            exact ⟨by grind, by grind⟩
          have p13 : (0 : Int32) ≤ v9 ∧ v9 ≤ (5 : Int32) := by
            exact ⟨by grind, by grind⟩
          exact ih (v9 + (1 : Int32)) v9 k7 p11 p12 p13 hk
theorem s_X7_beltOf_L4 {A : Nat → Nat → Nat → Prop} {B : SS} (M : SS) (hM : IV A B M) (p0 : Int32) (ip0 : (0 : Int32) ≤ p0 ∧ p0 ≤ (9 : Int32)) : ∀ (n : Nat), ∀ (v3 : Int32) (v4 : Int32) (k1 : (Int32 → Option (Int32))), (FU v3 8 n) → ((0 : Int32) ≤ v3 ∧ v3 ≤ (8 : Int32)) → (∀ (k_0 : Int32), ok (k1 k_0) (fun r => (0 : Int32) ≤ r ∧ r ≤ (5 : Int32))) → ok (f_X7_beltOf_L4 M p0 n v3 v4 k1) (fun r => (0 : Int32) ≤ r ∧ r ≤ (5 : Int32)) := by
  intro n
  induction n with
  | zero =>
    intro v3 v4 k1 hF iv3 hk
    exact (FU.stop hF (show v3 ≤ (8 : Int32) by grind)).elim
  | succ n ih =>
    intro v3 v4 k1 hF iv3 hk
    rw [f_X7_beltOf_L4]
    refine ok_ite (fun q1 => ?_) (fun q1 => ?_)
    · exact hk v4
    · have p2 : (0 : Int32) ≤ v3 ∧ v3 ≤ (7 : Int32) := by
        have c3 : (0 : Int32) ≤ (M.1 26 0 3) ∧ (M.1 26 0 3) ≤ (8 : Int32) := hM.at1 26 0 3
        exact ⟨by grind, by grind⟩
      refine ok_b0 (s_X7_bestOf M hM p0 v3 p2) (fun v15 w4 => ?_)
      have w5 : ((-1) : Int32) ≤ v15 ∧ v15 ≤ (39 : Int32) := w4
      refine ok_ite (fun q6 => ?_) (fun q6 => ?_)
      · refine ok_lq (fun v19 e7 => ?_)
        have p8 : FU (v3 + (1 : Int32)) 8 _ := by
          have c9 : (0 : Int32) ≤ (M.1 26 0 3) ∧ (M.1 26 0 3) ≤ (8 : Int32) := hM.at1 26 0 3
          exact FU.step hF (by grind)
        have p10 : (0 : Int32) ≤ (v3 + (1 : Int32)) ∧ (v3 + (1 : Int32)) ≤ (8 : Int32) := by
          have c11 : (0 : Int32) ≤ (M.1 26 0 3) ∧ (M.1 26 0 3) ≤ (8 : Int32) := hM.at1 26 0 3
          exact ⟨by grind, by grind⟩
        exact ih (v3 + (1 : Int32)) v19 k1 p8 p10 hk
      · refine ok_lq (fun v18 e12 => ?_)
        have p13 : FU (v3 + (1 : Int32)) 8 _ := by
          have c14 : (0 : Int32) ≤ (M.1 26 0 3) ∧ (M.1 26 0 3) ≤ (8 : Int32) := hM.at1 26 0 3
          exact FU.step hF (by grind)
        have p15 : (0 : Int32) ≤ (v3 + (1 : Int32)) ∧ (v3 + (1 : Int32)) ≤ (8 : Int32) := by
          have c16 : (0 : Int32) ≤ (M.1 26 0 3) ∧ (M.1 26 0 3) ≤ (8 : Int32) := hM.at1 26 0 3
          exact ⟨by grind, by grind⟩
        exact ih (v3 + (1 : Int32)) v18 k1 p13 p15 hk
theorem s_X7_beltOf {A : Nat → Nat → Nat → Prop} {B : SS} (M : SS) (hM : IV A B M) (p0 : Int32) (ip0 : (0 : Int32) ≤ p0 ∧ p0 ≤ (9 : Int32)) : ok (f_X7_beltOf M p0) (fun r => (0 : Int32) ≤ r ∧ r ≤ (5 : Int32)) := by
  unfold f_X7_beltOf
  have p1 : (0 : Int32) ≤ p0 ∧ p0 ≤ (9 : Int32) := by
    exact ⟨by grind, by grind⟩
  have p2 : FU (0 : Int32) 8 1000 := by
    exact FU.start (by grind) (by decide)
  refine s_X7_beltOf_L4 M hM p0 p1 1000 (0 : Int32) (0 : Int32) _ p2 ⟨by decide, by decide⟩ (fun v2 => ?_)
  refine ok_b0 (s_X7_pointsOf M hM p0) (fun v5 w3 => ?_)
  have nv5 : vf_n32 v5 := w3
  have p4 : FU (1 : Int32) 6 1000 := by
    exact FU.start (by grind) (by decide)
  refine s_X7_beltOf_L48 v2 v5 nv5 1000 (1 : Int32) (0 : Int32) _ p4 ⟨by decide, by decide⟩ ⟨by decide, by decide⟩ (fun v8 wv8 => ?_)
  have wv8 : (0 : Int32) ≤ v8 ∧ v8 ≤ (5 : Int32) := wv8
  have p5 : (0 : Int32) ≤ v8 ∧ v8 ≤ (5 : Int32) := by
    exact ⟨by grind, by grind⟩
  exact ok_some p5
theorem s_X7_vote {A : Nat → Nat → Nat → Prop} {B : SS} (M : SS) (hM : IV A B M) (p0 : Int32) (p1 : Int32) (p2 : Int32) (a1 : A 26 0 9) (a2 : ∀ p, A 46 0 p) (a3 : ∀ p, A 47 0 p) : ok (f_X7_vote M p0 p1 p2) (fun r => IV A B r.1 ∧ True) := by
  unfold f_X7_vote
  refine ok_b0 (s_X7_isMember M hM p0) (fun v1 w1 => ?_)
  have w2 : (0 : Int32) ≤ v1 ∧ v1 ≤ (1 : Int32) ∧ ((v1 = 0 ∧ (p0 < 0 ∨ (M.1 26 0 4) ≤ p0)) ∨ (v1 = 1 ∧ 0 ≤ p0 ∧ p0 < (M.1 26 0 4))) := w1
  refine ok_ite (fun q3 => ?_) (fun q3 => ?_)
  · refine ok_b1 (s_X7_fails M hM (1 : Int32) ⟨by decide, by decide⟩ (a1)) (fun M5 v4 w4 => ?_)
    have hM5 : IV A B M5 := w4.1
    have w5 : (0 : Int32) ≤ v4 ∧ v4 ≤ (0 : Int32) := w4.2
    exact ok_some ⟨hM5, trivial⟩
  · refine ok_b0 (s_X7_isWork M hM p1) (fun v7 w6 => ?_)
    have w7 : (0 : Int32) ≤ v7 ∧ v7 ≤ (1 : Int32) ∧ ((v7 = 0 ∧ (p1 < 0 ∨ (M.1 26 0 5) ≤ p1)) ∨ (v7 = 1 ∧ 0 ≤ p1 ∧ p1 < (M.1 26 0 5))) := w6
    refine ok_ite (fun q8 => ?_) (fun q8 => ?_)
    · refine ok_b1 (s_X7_fails M hM (1 : Int32) ⟨by decide, by decide⟩ (a1)) (fun M42 v41 w9 => ?_)
      have hM42 : IV A B M42 := w9.1
      have w10 : (0 : Int32) ≤ v41 ∧ v41 ≤ (0 : Int32) := w9.2
      exact ok_some ⟨hM42, trivial⟩
    · refine ok_b0 (s_X7_in p2 (1 : Int32) ⟨by decide, by decide⟩ (5 : Int32) ⟨by decide, by decide⟩) (fun v10 w11 => ?_)
      have w12 : (0 : Int32) ≤ v10 ∧ v10 ≤ (1 : Int32) ∧ ((v10 = 0 ∧ ((5 : Int32) < (1 : Int32) ∨ (5 : Int32) < (5 : Int32))) ∨ (v10 = 1 ∧ (1 : Int32) ≤ (5 : Int32) ∧ (5 : Int32) ≤ (5 : Int32))) := w11
      refine ok_ite (fun q13 => ?_) (fun q13 => ?_)
      · refine ok_b1 (s_X7_fails M hM (2 : Int32) ⟨by decide, by decide⟩ (a1)) (fun M39 v38 w14 => ?_)
        have hM39 : IV A B M39 := w14.1
        have w15 : (0 : Int32) ≤ v38 ∧ v38 ≤ (0 : Int32) := w14.2
        exact ok_some ⟨hM39, trivial⟩
      · refine ok_gd ?_ (fun g16 => ?_)
        · exact vp_of (by decide) (by grind) (show p1 < (40 : Int32) by grind)
        have g16 := vp_to (by decide) g16
        have g16 : (0 : Int32) ≤ p1 ∧ p1 < (40 : Int32) := g16
        refine ok_ite (fun q17 => ?_) (fun q17 => ?_)
        · refine ok_b1 (s_X7_fails M hM (3 : Int32) ⟨by decide, by decide⟩ (a1)) (fun M16 v15 w18 => ?_)
          have hM16 : IV A B M16 := w18.1
          have w19 : (0 : Int32) ≤ v15 ∧ v15 ≤ (0 : Int32) := w18.2
          exact ok_some ⟨hM16, trivial⟩
        · refine ok_gd ?_ (fun g20 => ?_)
          · have c21 : (0 : Int32) ≤ (M.1 39 0 (p1).toNatClampNeg) ∧ (M.1 39 0 (p1).toNatClampNeg) ≤ (9 : Int32) := hM.at1 39 0 ((p1).toNatClampNeg)
            exact vp_of (by decide) (by grind) (show p1 < (40 : Int32) by grind)
          have g20 := vp_to (by decide) g20
          have g20 : (0 : Int32) ≤ p1 ∧ p1 < (40 : Int32) := g20
          refine ok_ite (fun q22 => ?_) (fun q22 => ?_)
          · refine ok_b1 (s_X7_fails M hM (3 : Int32) ⟨by decide, by decide⟩ (a1)) (fun M21 v20 w23 => ?_)
            have hM21 : IV A B M21 := w23.1
            have w24 : (0 : Int32) ≤ v20 ∧ v20 ≤ (0 : Int32) := w23.2
            exact ok_some ⟨hM21, trivial⟩
          · refine ok_gd ?_ (fun g25 => ?_)
            · have c26 : (0 : Int32) ≤ (M.1 39 0 (p1).toNatClampNeg) ∧ (M.1 39 0 (p1).toNatClampNeg) ≤ (9 : Int32) := hM.at1 39 0 ((p1).toNatClampNeg)
              have c27 : (0 : Int32) ≤ (M.1 43 0 (p1).toNatClampNeg) ∧ (M.1 43 0 (p1).toNatClampNeg) ≤ (1 : Int32) := hM.at1 43 0 ((p1).toNatClampNeg)
              exact vp_of (by decide) (by grind) (show p1 < (40 : Int32) by grind)
            have g25 := vp_to (by decide) g25
            have g25 : (0 : Int32) ≤ p1 ∧ p1 < (40 : Int32) := g25
            refine ok_ite (fun q28 => ?_) (fun q28 => ?_)
            · refine ok_b1 (s_X7_fails M hM (3 : Int32) ⟨by decide, by decide⟩ (a1)) (fun M36 v35 w29 => ?_)
              have hM36 : IV A B M36 := w29.1
              have w30 : (0 : Int32) ≤ v35 ∧ v35 ≤ (0 : Int32) := w29.2
              exact ok_some ⟨hM36, trivial⟩
            · have p31 : (0 : Int32) ≤ p0 ∧ p0 ≤ (9 : Int32) := by
                have c32 : (0 : Int32) ≤ (M.1 39 0 (p1).toNatClampNeg) ∧ (M.1 39 0 (p1).toNatClampNeg) ≤ (9 : Int32) := hM.at1 39 0 ((p1).toNatClampNeg)
                have c33 : (0 : Int32) ≤ (M.1 43 0 (p1).toNatClampNeg) ∧ (M.1 43 0 (p1).toNatClampNeg) ≤ (1 : Int32) := hM.at1 43 0 ((p1).toNatClampNeg)
                have c34 : (0 : Int32) ≤ (M.1 42 0 (p1).toNatClampNeg) ∧ (M.1 42 0 (p1).toNatClampNeg) ≤ (65535 : Int32) := hM.at1 42 0 ((p1).toNatClampNeg)
                exact ⟨by grind, by grind⟩
              refine ok_b0 (s_X7_beltOf M hM p0 p31) (fun v25 w35 => ?_)
              have w36 : (0 : Int32) ≤ v25 ∧ v25 ≤ (5 : Int32) := w35
              refine ok_lq (fun v27 e37 => ?_)
              refine ok_gd ?_ (fun g38 => ?_)
              · have c39 : (0 : Int32) ≤ (M.1 39 0 (p1).toNatClampNeg) ∧ (M.1 39 0 (p1).toNatClampNeg) ≤ (9 : Int32) := hM.at1 39 0 ((p1).toNatClampNeg)
                have c40 : (0 : Int32) ≤ (M.1 43 0 (p1).toNatClampNeg) ∧ (M.1 43 0 (p1).toNatClampNeg) ≤ (1 : Int32) := hM.at1 43 0 ((p1).toNatClampNeg)
                have c41 : (0 : Int32) ≤ (M.1 42 0 (p1).toNatClampNeg) ∧ (M.1 42 0 (p1).toNatClampNeg) ≤ (65535 : Int32) := hM.at1 42 0 ((p1).toNatClampNeg)
                exact vp_of (by decide) (by grind) (show (((10 : Int32) * p1) + p0) < (400 : Int32) by grind)
              have g38 := vp_to (by decide) g38
              have g38 : (0 : Int32) ≤ (((10 : Int32) * p1) + p0) ∧ (((10 : Int32) * p1) + p0) < (400 : Int32) := g38
              refine ok_lq (fun M29 e42 => ?_)
              have p43 : (0 : Int32) ≤ p2 ∧ p2 ≤ (5 : Int32) := by
                exact ⟨by grind, by grind⟩
              have hM29 : IV A B M29 := by rw [e42]; exact hM.u1 rfl (a2 (((((10 : Int32) * p1) + p0)).toNatClampNeg)) p43
              refine ok_gd ?_ (fun g44 => ?_)
              · have c45 : (0 : Int32) ≤ (M.1 39 0 (p1).toNatClampNeg) ∧ (M.1 39 0 (p1).toNatClampNeg) ≤ (9 : Int32) := hM.at1 39 0 ((p1).toNatClampNeg)
                have c46 : (0 : Int32) ≤ (M.1 43 0 (p1).toNatClampNeg) ∧ (M.1 43 0 (p1).toNatClampNeg) ≤ (1 : Int32) := hM.at1 43 0 ((p1).toNatClampNeg)
                have c47 : (0 : Int32) ≤ (M.1 42 0 (p1).toNatClampNeg) ∧ (M.1 42 0 (p1).toNatClampNeg) ≤ (65535 : Int32) := hM.at1 42 0 ((p1).toNatClampNeg)
                exact vp_of (by decide) (by grind) (show (((10 : Int32) * p1) + p0) < (400 : Int32) by grind)
              have g44 := vp_to (by decide) g44
              have g44 : (0 : Int32) ≤ (((10 : Int32) * p1) + p0) ∧ (((10 : Int32) * p1) + p0) < (400 : Int32) := g44
              refine ok_lq (fun M31 e48 => ?_)
              have p49 : (0 : Int32) ≤ v27 ∧ v27 ≤ (6 : Int32) := by
                exact ⟨by grind, by grind⟩
              have hM31 : IV A B M31 := by rw [e48]; exact hM29.u1 rfl (a3 (((((10 : Int32) * p1) + p0)).toNatClampNeg)) p49
              refine ok_b1 (s_X7_tells M31 hM31 v27 (a1)) (fun M33 v32 w50 => ?_)
              have hM33 : IV A B M33 := w50.1
              exact ok_some ⟨hM33, trivial⟩
theorem rem_lt {a b : Int32} (h : 0 < b) : -b < a - a / b * b ∧ a - a / b * b < b := by
  have hb := Int32.lt_iff_toInt_lt.mp h
  rw [toInt_z] at hb
  have hb2 := b.toInt_lt
  have ha1 := a.le_toInt
  have ha2 := a.toInt_lt
  have hd : (a / b).toInt = a.toInt.tdiv b.toInt := by
    rw [Int32.toInt_div]
    apply Int.bmod_eq_of_le
    · have := Int.tdiv_le_tdiv hb (a := -2 ^ 31) (b := a.toInt) ha1
      have h3 : (-(2 ^ 31) : Int).tdiv b.toInt ≥ -(2 ^ 31) := by
        rw [Int.neg_tdiv]
        have := Int.tdiv_le_self b.toInt (a := 2 ^ 31) (by decide)
        omega
      omega
    · have := Int.tdiv_le_tdiv hb (a := a.toInt) (b := 2 ^ 31 - 1) (by omega)
      have := Int.tdiv_le_self b.toInt (a := 2 ^ 31 - 1) (by decide)
      omega
  have hm := Int.tmod_add_mul_tdiv a.toInt b.toInt
  have h1 := Int.tmod_lt_of_pos a.toInt hb
  have h2 : -b.toInt < a.toInt.tmod b.toInt := by
    have := Int.lt_tmod_of_pos a.toInt hb
    omega
  have hmul : (a / b * b).toInt = a.toInt.tdiv b.toInt * b.toInt := by
    rw [Int32.toInt_mul, hd]
    have : a.toInt.tdiv b.toInt * b.toInt = a.toInt - a.toInt.tmod b.toInt := by
      rw [Int.mul_comm]
      omega
    rw [this]
    have h5 : (0 ≤ a.toInt → 0 ≤ a.toInt.tmod b.toInt ∧ a.toInt.tmod b.toInt ≤ a.toInt) ∧ (a.toInt ≤ 0 → a.toInt.tmod b.toInt ≤ 0 ∧ a.toInt ≤ a.toInt.tmod b.toInt) := by
      refine ⟨fun z => ?_, fun z => ?_⟩
      · rw [Int.tmod_eq_emod_of_nonneg z]
        exact ⟨Int.emod_nonneg _ (by omega), Int.emod_le_of_nonneg z (by omega)⟩
      · have e : a.toInt = -(-a.toInt) := by omega
        rw [e, Int.neg_tmod, Int.tmod_eq_emod_of_nonneg (by omega)]
        have := Int.emod_nonneg (-a.toInt) (b := b.toInt) (by omega)
        have : (-a.toInt) % b.toInt ≤ -a.toInt := Int.emod_le_of_nonneg (by omega) (by omega)
        omega
    apply Int.bmod_eq_of_le <;> omega
  have hr : (a - a / b * b).toInt = a.toInt.tmod b.toInt := by
    rw [Int32.toInt_sub, hmul]
    have : a.toInt - a.toInt.tdiv b.toInt * b.toInt = a.toInt.tmod b.toInt := by
      rw [Int.mul_comm]
      omega
    rw [this]
    apply Int.bmod_eq_of_le <;> omega
  refine ⟨Int32.lt_iff_toInt_lt.mpr ?_, Int32.lt_iff_toInt_lt.mpr ?_⟩
  · rw [hr, Int32.toInt_neg]
    rw [show (-b.toInt).bmod (2 ^ 32) = -b.toInt by apply Int.bmod_eq_of_le <;> omega]
    exact h2
  · rw [hr]
    exact h1
theorem s_X7_style_L46  : ∀ (n : Nat), ∀ (v13 : Int32) (v14 : Int32) (k11 : (Int32 → Option (SS × Int64))), (FZ v13 (n)) → ((0 : Int32) ≤ v13 ∧ v13 ≤ (60 : Int32)) → ((0 : Int32) ≤ v14 ∧ v14 ≤ (300 : Int32)) → (∀ (k_0 : Int32), ((0 : Int32) ≤ k_0 ∧ k_0 ≤ (300 : Int32)) → ((0 < v13 → 0 < k_0) ∧ (v13 ≤ 0 → k_0 = v14)) → ok (k11 k_0) (fun r => IV A B r.1 ∧ True)) → ok (f_X7_style_L46 n v13 v14 k11) (fun r => IV A B r.1 ∧ True) := by
  intro n
  induction n with
  | zero =>
    intro v13 v14 k11 hF iv13 hk
    unfold FZ at hF
    omega
  | succ n ih =>
    intro v13 v14 k11 hF iv13 hk
    rw [f_X7_style_L46]
    refine ok_ite (fun q => hk v14 ⟨fun z => absurd q (by grind), fun _ => rfl⟩) (fun q => ?_)
    refine ok_gd (by grind) (fun g => ok_lq (fun v21 e => ?_))
    have h := rem_lt (a := v14) (b := v13) (by grind)
    rw [← e] at h
    refine ih v21 v13 k11 ?_ ⟨by grind, by grind⟩ (fun k0 ek => hk k0 ⟨fun _ => ?_, fun z => absurd z q⟩)
    · exact hF.step (by grind) h.2
    · by_cases z : 0 < v21
      · exact ek.1 z
      · have := ek.2 (by grind)
        grind
theorem s_X7_style {A : Nat → Nat → Nat → Prop} {B : SS} (M : SS) (hM : IV A B M) (p0 : Int32) (p1 : Int32) (a1 : A 26 0 9) : ok (f_X7_style M p0 p1) (fun r => IV A B r.1 ∧ True) := by
  unfold f_X7_style
  refine ok_b0 (s_X7_isWork M hM p0) (fun v1 w1 => ?_)
  have w2 : (0 : Int32) ≤ v1 ∧ v1 ≤ (1 : Int32) ∧ ((v1 = 0 ∧ (p0 < 0 ∨ (M.1 26 0 5) ≤ p0)) ∨ (v1 = 1 ∧ 0 ≤ p0 ∧ p0 < (M.1 26 0 5))) := w1
  refine ok_ite (fun q3 => ?_) (fun q3 => ?_)
  · unfold f_X7_style_J14
    refine ok_lq (fun M5 e4 => ?_)
    have hM5 : IV A B M5 := by rw [e4]; exact hM.u1 rfl (a1) ⟨by decide, by decide⟩
    refine ok_ite (fun q5 => ?_) (fun q5 => ?_)
    · have p6 : (0 : Int32) ≤ p0 ∧ p0 ≤ (39 : Int32) := by
        exact ⟨by grind, by grind⟩
      refine ok_b0 (s_X7_weighed M5 hM5 p0 p6) (fun v7 w7 => ?_)
      have p8 : (0 : Int32) ≤ p0 ∧ p0 ≤ (39 : Int32) := by
        exact ⟨by grind, by grind⟩
      refine ok_b0 (s_X7_weightOf M5 hM5 p0 p8) (fun v9 w9 => ?_)
      have w10 : ((0 : Int32) ≤ v9 ∧ v9 ≤ (60 : Int32)) := w9
      have p11 : FZ v9 (1000) := by
        exact FZ.start (by grind)
      have p12 : (0 : Int32) ≤ v9 ∧ v9 ≤ (60 : Int32) := by
        exact ⟨by grind, by grind⟩
      have p13 : (0 : Int32) ≤ v7 ∧ v7 ≤ (300 : Int32) := by
        exact ⟨by grind, by grind⟩
      refine s_X7_style_L46 1000 v9 v7 _ p11 p12 p13 (fun v12 wv12 ek => ?_)
      have wv12 : (0 : Int32) ≤ v12 ∧ v12 ≤ (300 : Int32) := wv12
      have e14 : (0 < v13 → 0 < v12) ∧ (v13 ≤ 0 → v12 = v14) := ek
      refine ok_ite (fun q15 => ?_) (fun q15 => ?_)
      · exact ok_some ⟨hM5, trivial⟩
      · refine ok_ite (fun q16 => ?_) (fun q16 => ?_)
        · refine ok_gd ?_ (fun g17 => ?_)
          · grind
          exact ok_some ⟨hM5, trivial⟩
        · refine ok_gd ?_ (fun g18 => ?_)
          · grind
          exact ok_some ⟨hM5, trivial⟩
    · exact ok_some ⟨hM5, trivial⟩
  · unfold f_X7_style_J14
    refine ok_lq (fun M5 e19 => ?_)
    have hM5 : IV A B M5 := by rw [e19]; exact hM.u1 rfl (a1) ⟨by decide, by decide⟩
    refine ok_ite (fun q20 => ?_) (fun q20 => ?_)
    · have p21 : (0 : Int32) ≤ p0 ∧ p0 ≤ (39 : Int32) := by
        exact ⟨by grind, by grind⟩
      refine ok_b0 (s_X7_weighed M5 hM5 p0 p21) (fun v7 w22 => ?_)
      have p23 : (0 : Int32) ≤ p0 ∧ p0 ≤ (39 : Int32) := by
        exact ⟨by grind, by grind⟩
      refine ok_b0 (s_X7_weightOf M5 hM5 p0 p23) (fun v9 w24 => ?_)
      have w25 : ((0 : Int32) ≤ v9 ∧ v9 ≤ (60 : Int32)) := w24
      have p26 : FZ v9 (1000) := by
        exact FZ.start (by grind)
      have p27 : (0 : Int32) ≤ v9 ∧ v9 ≤ (60 : Int32) := by
        exact ⟨by grind, by grind⟩
      have p28 : (0 : Int32) ≤ v7 ∧ v7 ≤ (300 : Int32) := by
        exact ⟨by grind, by grind⟩
      refine s_X7_style_L46 1000 v9 v7 _ p26 p27 p28 (fun v12 wv12 ek => ?_)
      have wv12 : (0 : Int32) ≤ v12 ∧ v12 ≤ (300 : Int32) := wv12
      have e29 : (0 < v13 → 0 < v12) ∧ (v13 ≤ 0 → v12 = v14) := ek
      refine ok_ite (fun q30 => ?_) (fun q30 => ?_)
      · exact ok_some ⟨hM5, trivial⟩
      · refine ok_ite (fun q31 => ?_) (fun q31 => ?_)
        · refine ok_gd ?_ (fun g32 => ?_)
          · grind
          exact ok_some ⟨hM5, trivial⟩
        · refine ok_gd ?_ (fun g33 => ?_)
          · grind
          exact ok_some ⟨hM5, trivial⟩
    · exact ok_some ⟨hM5, trivial⟩
theorem s_X7_isAhead {A : Nat → Nat → Nat → Prop} {B : SS} (M : SS) (hM : IV A B M) (p0 : Int32) (ip0 : (0 : Int32) ≤ p0 ∧ p0 ≤ (39 : Int32)) (p1 : Int32) (ip1 : (0 : Int32) ≤ p1 ∧ p1 ≤ (39 : Int32)) : ok (f_X7_isAhead M p0 p1) (fun r => (0 : Int32) ≤ r ∧ r ≤ (1 : Int32)) := by
  unfold f_X7_isAhead
  have p1 : (0 : Int32) ≤ p1 ∧ p1 ≤ (39 : Int32) := by
    exact ⟨by grind, by grind⟩
  refine ok_b0 (s_X7_votesOf M hM p1 p1) (fun v1 w2 => ?_)
  have p3 : (0 : Int32) ≤ p0 ∧ p0 ≤ (39 : Int32) := by
    exact ⟨by grind, by grind⟩
  refine ok_b0 (s_X7_votesOf M hM p0 p3) (fun v3 w4 => ?_)
  refine ok_lq (fun v5 e5 => ?_)
  refine ok_ite (fun q6 => ?_) (fun q6 => ?_)
  · have p7 : (0 : Int32) ≤ (1 : Int32) ∧ (1 : Int32) ≤ (1 : Int32) := by
      exact ⟨by grind, by grind⟩
    exact ok_some p7
  · refine ok_ite (fun q8 => ?_) (fun q8 => ?_)
    · refine ok_gd ?_ (fun g9 => ?_)
      · exact vp_of (by decide) (by grind) (show p0 < (40 : Int32) by grind)
      have g9 := vp_to (by decide) g9
      have g9 : (0 : Int32) ≤ p0 ∧ p0 < (40 : Int32) := g9
      refine ok_gd ?_ (fun g10 => ?_)
      · have c11 : (0 : Int32) ≤ (M.1 40 0 (p0).toNatClampNeg) ∧ (M.1 40 0 (p0).toNatClampNeg) ≤ (7 : Int32) := hM.at1 40 0 ((p0).toNatClampNeg)
        exact vp_of (by decide) (by grind) (show (M.1 40 0 (p0).toNatClampNeg) < (8 : Int32) by grind)
      have g10 := vp_to (by decide) g10
      have g10 : (0 : Int32) ≤ (M.1 40 0 (p0).toNatClampNeg) ∧ (M.1 40 0 (p0).toNatClampNeg) < (8 : Int32) := g10
      refine ok_gd ?_ (fun g12 => ?_)
      · exact vp_of (by decide) (by grind) (show p1 < (40 : Int32) by grind)
      have g12 := vp_to (by decide) g12
      have g12 : (0 : Int32) ≤ p1 ∧ p1 < (40 : Int32) := g12
      refine ok_gd ?_ (fun g13 => ?_)
      · have c14 : (0 : Int32) ≤ (M.1 40 0 (p1).toNatClampNeg) ∧ (M.1 40 0 (p1).toNatClampNeg) ≤ (7 : Int32) := hM.at1 40 0 ((p1).toNatClampNeg)
        exact vp_of (by decide) (by grind) (show (M.1 40 0 (p1).toNatClampNeg) < (8 : Int32) by grind)
      have g13 := vp_to (by decide) g13
      have g13 : (0 : Int32) ≤ (M.1 40 0 (p1).toNatClampNeg) ∧ (M.1 40 0 (p1).toNatClampNeg) < (8 : Int32) := g13
      refine ok_ite (fun q15 => ?_) (fun q15 => ?_)
      · have p16 : (0 : Int32) ≤ (0 : Int32) ∧ (0 : Int32) ≤ (1 : Int32) := by
          exact ⟨by grind, by grind⟩
        exact ok_some p16
      · have p17 : (0 : Int32) ≤ (1 : Int32) ∧ (1 : Int32) ≤ (1 : Int32) := by
          exact ⟨by grind, by grind⟩
        exact ok_some p17
    · have p18 : (0 : Int32) ≤ (0 : Int32) ∧ (0 : Int32) ≤ (1 : Int32) := by
        exact ⟨by grind, by grind⟩
      exact ok_some p18
theorem s_X7_review_J75 {A : Nat → Nat → Nat → Prop} {B : SS} {n : Nat} (rc : Int32 → Int32 → (Int32 → Option (SS × Int32)) → Option (SS × Int32)) (hrc : ∀ (v6 : Int32) (v7 : Int32) (k4 : (Int32 → Option (SS × Int32))), (FU v6 40 n) → ((0 : Int32) ≤ v6 ∧ v6 ≤ (40 : Int32)) → (((-1) : Int32) ≤ v7 ∧ v7 ≤ (39 : Int32)) → (∀ (k_0 : Int32), (((-1) : Int32) ≤ k_0 ∧ k_0 ≤ (39 : Int32)) → ok (k4 k_0) (fun r => IV A B r.1 ∧ True)) → ok (rc v6 v7 k4) (fun r => IV A B r.1 ∧ True)) (k4 : Int32 → Option (SS × Int32)) (hk : ∀ (k_0 : Int32), (((-1) : Int32) ≤ k_0 ∧ k_0 ≤ (39 : Int32)) → ok (k4 k_0) (fun r => IV A B r.1 ∧ True)) (v6 : Int32) (iv6 : (0 : Int32) ≤ v6 ∧ v6 ≤ (39 : Int32)) (v7 : Int32) (iv7 : ((-1) : Int32) ≤ v7 ∧ v7 ≤ (39 : Int32)) (M : SS) (hM : IV A B M) (v17 : Int32) (iv17 : (0 : Int32) ≤ v17 ∧ v17 ≤ (1 : Int32)) (hF : FU v6 40 (n + 1)) : ok (f_X7_review_J75 rc k4 v6 v7 M v17) (fun r => IV A B r.1 ∧ True) := by
  unfold f_X7_review_J75
  refine ok_ite (fun q1 => ?_) (fun q1 => ?_)
  · have p2 : FU (v6 + (1 : Int32)) 40 _ := by
      exact FU.step hF (by grind)
    have p3 : (0 : Int32) ≤ (v6 + (1 : Int32)) ∧ (v6 + (1 : Int32)) ≤ (40 : Int32) := by
      exact ⟨by grind, by grind⟩
    have p4 : ((-1) : Int32) ≤ v7 ∧ v7 ≤ (39 : Int32) := by
      exact ⟨by grind, by grind⟩
    exact hrc (v6 + (1 : Int32)) v7 k4 p2 p3 p4 hk
  · refine ok_ite (fun q5 => ?_) (fun q5 => ?_)
    · have p6 : FU (v6 + (1 : Int32)) 40 _ := by
        exact FU.step hF (by grind)
      have p7 : (0 : Int32) ≤ (v6 + (1 : Int32)) ∧ (v6 + (1 : Int32)) ≤ (40 : Int32) := by
        exact ⟨by grind, by grind⟩
      have p8 : ((-1) : Int32) ≤ v6 ∧ v6 ≤ (39 : Int32) := by
        exact ⟨by grind, by grind⟩
      exact hrc (v6 + (1 : Int32)) v6 k4 p6 p7 p8 hk
    · have p9 : (0 : Int32) ≤ v6 ∧ v6 ≤ (39 : Int32) := by
        exact ⟨by grind, by grind⟩
      have p10 : (0 : Int32) ≤ v7 ∧ v7 ≤ (39 : Int32) := by
        exact ⟨by grind, by grind⟩
      refine ok_b0 (s_X7_isAhead M hM v6 p9 v7 p10) (fun v21 w11 => ?_)
      have w12 : (0 : Int32) ≤ v21 ∧ v21 ≤ (1 : Int32) := w11
      refine ok_ite (fun q13 => ?_) (fun q13 => ?_)
      · have p14 : FU (v6 + (1 : Int32)) 40 _ := by
          exact FU.step hF (by grind)
        have p15 : (0 : Int32) ≤ (v6 + (1 : Int32)) ∧ (v6 + (1 : Int32)) ≤ (40 : Int32) := by
          exact ⟨by grind, by grind⟩
        have p16 : ((-1) : Int32) ≤ v7 ∧ v7 ≤ (39 : Int32) := by
          exact ⟨by grind, by grind⟩
        exact hrc (v6 + (1 : Int32)) v7 k4 p14 p15 p16 hk
      · have p17 : FU (v6 + (1 : Int32)) 40 _ := by
          exact FU.step hF (by grind)
        have p18 : (0 : Int32) ≤ (v6 + (1 : Int32)) ∧ (v6 + (1 : Int32)) ≤ (40 : Int32) := by
          exact ⟨by grind, by grind⟩
        have p19 : ((-1) : Int32) ≤ v6 ∧ v6 ≤ (39 : Int32) := by
          exact ⟨by grind, by grind⟩
        exact hrc (v6 + (1 : Int32)) v6 k4 p17 p18 p19 hk
theorem s_X7_review_J74 {A : Nat → Nat → Nat → Prop} {B : SS} {n : Nat} (rc : Int32 → Int32 → (Int32 → Option (SS × Int32)) → Option (SS × Int32)) (hrc : ∀ (v6 : Int32) (v7 : Int32) (k4 : (Int32 → Option (SS × Int32))), (FU v6 40 n) → ((0 : Int32) ≤ v6 ∧ v6 ≤ (40 : Int32)) → (((-1) : Int32) ≤ v7 ∧ v7 ≤ (39 : Int32)) → (∀ (k_0 : Int32), (((-1) : Int32) ≤ k_0 ∧ k_0 ≤ (39 : Int32)) → ok (k4 k_0) (fun r => IV A B r.1 ∧ True)) → ok (rc v6 v7 k4) (fun r => IV A B r.1 ∧ True)) (k4 : Int32 → Option (SS × Int32)) (hk : ∀ (k_0 : Int32), (((-1) : Int32) ≤ k_0 ∧ k_0 ≤ (39 : Int32)) → ok (k4 k_0) (fun r => IV A B r.1 ∧ True)) (v6 : Int32) (iv6 : (0 : Int32) ≤ v6 ∧ v6 ≤ (39 : Int32)) (v7 : Int32) (iv7 : ((-1) : Int32) ≤ v7 ∧ v7 ≤ (39 : Int32)) (M : SS) (hM : IV A B M) (hF : FU v6 40 (n + 1)) : ok (f_X7_review_J74 rc k4 v6 v7 M) (fun r => IV A B r.1 ∧ True) := by
  unfold f_X7_review_J74
  have p1 : (0 : Int32) ≤ v6 ∧ v6 ≤ (39 : Int32) := by
    exact ⟨by grind, by grind⟩
  have p2 : ((-1) : Int32) ≤ v7 ∧ v7 ≤ (39 : Int32) := by
    exact ⟨by grind, by grind⟩
  exact s_X7_review_J75 (n := _) rc hrc k4 hk v6 p1 v7 p2 M hM (0 : Int32) ⟨by decide, by decide⟩ hF
theorem s_X7_review_L18 {A : Nat → Nat → Nat → Prop} {B : SS} (M : SS) (hM : IV A B M) (p0 : Int32) (ip0 : (0 : Int32) ≤ p0 ∧ p0 ≤ (9 : Int32)) : ∀ (n : Nat), ∀ (v6 : Int32) (v7 : Int32) (k4 : (Int32 → Option (SS × Int32))), (FU v6 40 n) → ((0 : Int32) ≤ v6 ∧ v6 ≤ (40 : Int32)) → (((-1) : Int32) ≤ v7 ∧ v7 ≤ (39 : Int32)) → (∀ (k_0 : Int32), (((-1) : Int32) ≤ k_0 ∧ k_0 ≤ (39 : Int32)) → ok (k4 k_0) (fun r => IV A B r.1 ∧ True)) → ok (f_X7_review_L18 M p0 n v6 v7 k4) (fun r => IV A B r.1 ∧ True) := by
  intro n
  induction n with
  | zero =>
    intro v6 v7 k4 hF iv6 iv7 hk
    exact (FU.stop hF (show v6 ≤ (40 : Int32) by grind)).elim
  | succ n ih =>
    intro v6 v7 k4 hF iv6 iv7 hk
    rw [f_X7_review_L18]
    refine ok_ite (fun q1 => ?_) (fun q1 => ?_)
    · have p2 : ((-1) : Int32) ≤ v7 ∧ v7 ≤ (39 : Int32) := by
        exact ⟨by grind, by grind⟩
      exact hk v7 p2
    · refine ok_gd ?_ (fun g3 => ?_)
      · have c4 : (0 : Int32) ≤ (M.1 26 0 5) ∧ (M.1 26 0 5) ≤ (40 : Int32) := hM.at1 26 0 5
        exact vp_of (by decide) (by grind) (show v6 < (40 : Int32) by grind)
      have g3 := vp_to (by decide) g3
      have g3 : (0 : Int32) ≤ v6 ∧ v6 < (40 : Int32) := g3
      refine ok_ite (fun q5 => ?_) (fun q5 => ?_)
      · have p6 : (0 : Int32) ≤ v6 ∧ v6 ≤ (39 : Int32) := by
          have c7 : (0 : Int32) ≤ (M.1 26 0 5) ∧ (M.1 26 0 5) ≤ (40 : Int32) := hM.at1 26 0 5
          have c8 : (0 : Int32) ≤ (M.1 43 0 (v6).toNatClampNeg) ∧ (M.1 43 0 (v6).toNatClampNeg) ≤ (1 : Int32) := hM.at1 43 0 ((v6).toNatClampNeg)
          exact ⟨by grind, by grind⟩
        have p9 : ((-1) : Int32) ≤ v7 ∧ v7 ≤ (39 : Int32) := by
          exact ⟨by grind, by grind⟩
        exact s_X7_review_J74 (n := _) (f_X7_review_L18 M p0 n) ih k4 hk v6 p6 v7 p9 M hM hF
      · refine ok_gd ?_ (fun g10 => ?_)
        · have c11 : (0 : Int32) ≤ (M.1 26 0 5) ∧ (M.1 26 0 5) ≤ (40 : Int32) := hM.at1 26 0 5
          have c12 : (0 : Int32) ≤ (M.1 43 0 (v6).toNatClampNeg) ∧ (M.1 43 0 (v6).toNatClampNeg) ≤ (1 : Int32) := hM.at1 43 0 ((v6).toNatClampNeg)
          exact vp_of (by decide) (by grind) (show v6 < (40 : Int32) by grind)
        have g10 := vp_to (by decide) g10
        have g10 : (0 : Int32) ≤ v6 ∧ v6 < (40 : Int32) := g10
        refine ok_ite (fun q13 => ?_) (fun q13 => ?_)
        · refine ok_gd ?_ (fun g14 => ?_)
          · have c15 : (0 : Int32) ≤ (M.1 26 0 5) ∧ (M.1 26 0 5) ≤ (40 : Int32) := hM.at1 26 0 5
            have c16 : (0 : Int32) ≤ (M.1 43 0 (v6).toNatClampNeg) ∧ (M.1 43 0 (v6).toNatClampNeg) ≤ (1 : Int32) := hM.at1 43 0 ((v6).toNatClampNeg)
            have c17 : (0 : Int32) ≤ (M.1 42 0 (v6).toNatClampNeg) ∧ (M.1 42 0 (v6).toNatClampNeg) ≤ (65535 : Int32) := hM.at1 42 0 ((v6).toNatClampNeg)
            exact vp_of (by decide) (by grind) (show v6 < (40 : Int32) by grind)
          have g14 := vp_to (by decide) g14
          have g14 : (0 : Int32) ≤ v6 ∧ v6 < (40 : Int32) := g14
          refine ok_ite (fun q18 => ?_) (fun q18 => ?_)
          · have p19 : (0 : Int32) ≤ v6 ∧ v6 ≤ (39 : Int32) := by
              have c20 : (0 : Int32) ≤ (M.1 26 0 5) ∧ (M.1 26 0 5) ≤ (40 : Int32) := hM.at1 26 0 5
              have c21 : (0 : Int32) ≤ (M.1 43 0 (v6).toNatClampNeg) ∧ (M.1 43 0 (v6).toNatClampNeg) ≤ (1 : Int32) := hM.at1 43 0 ((v6).toNatClampNeg)
              have c22 : (0 : Int32) ≤ (M.1 42 0 (v6).toNatClampNeg) ∧ (M.1 42 0 (v6).toNatClampNeg) ≤ (65535 : Int32) := hM.at1 42 0 ((v6).toNatClampNeg)
              have c23 : (0 : Int32) ≤ (M.1 39 0 (v6).toNatClampNeg) ∧ (M.1 39 0 (v6).toNatClampNeg) ≤ (9 : Int32) := hM.at1 39 0 ((v6).toNatClampNeg)
              exact ⟨by grind, by grind⟩
            have p24 : ((-1) : Int32) ≤ v7 ∧ v7 ≤ (39 : Int32) := by
              exact ⟨by grind, by grind⟩
            exact s_X7_review_J74 (n := _) (f_X7_review_L18 M p0 n) ih k4 hk v6 p19 v7 p24 M hM hF
          · refine ok_gd ?_ (fun g25 => ?_)
            · have c26 : (0 : Int32) ≤ (M.1 26 0 5) ∧ (M.1 26 0 5) ≤ (40 : Int32) := hM.at1 26 0 5
              have c27 : (0 : Int32) ≤ (M.1 43 0 (v6).toNatClampNeg) ∧ (M.1 43 0 (v6).toNatClampNeg) ≤ (1 : Int32) := hM.at1 43 0 ((v6).toNatClampNeg)
              have c28 : (0 : Int32) ≤ (M.1 42 0 (v6).toNatClampNeg) ∧ (M.1 42 0 (v6).toNatClampNeg) ≤ (65535 : Int32) := hM.at1 42 0 ((v6).toNatClampNeg)
              have c29 : (0 : Int32) ≤ (M.1 39 0 (v6).toNatClampNeg) ∧ (M.1 39 0 (v6).toNatClampNeg) ≤ (9 : Int32) := hM.at1 39 0 ((v6).toNatClampNeg)
              exact vp_of (by decide) (by grind) (show (((10 : Int32) * v6) + p0) < (400 : Int32) by grind)
            have g25 := vp_to (by decide) g25
            have g25 : (0 : Int32) ≤ (((10 : Int32) * v6) + p0) ∧ (((10 : Int32) * v6) + p0) < (400 : Int32) := g25
            refine ok_ite (fun q30 => ?_) (fun q30 => ?_)
            · have p31 : (0 : Int32) ≤ v6 ∧ v6 ≤ (39 : Int32) := by
                have c32 : (0 : Int32) ≤ (M.1 26 0 5) ∧ (M.1 26 0 5) ≤ (40 : Int32) := hM.at1 26 0 5
                have c33 : (0 : Int32) ≤ (M.1 43 0 (v6).toNatClampNeg) ∧ (M.1 43 0 (v6).toNatClampNeg) ≤ (1 : Int32) := hM.at1 43 0 ((v6).toNatClampNeg)
                have c34 : (0 : Int32) ≤ (M.1 42 0 (v6).toNatClampNeg) ∧ (M.1 42 0 (v6).toNatClampNeg) ≤ (65535 : Int32) := hM.at1 42 0 ((v6).toNatClampNeg)
                have c35 : (0 : Int32) ≤ (M.1 39 0 (v6).toNatClampNeg) ∧ (M.1 39 0 (v6).toNatClampNeg) ≤ (9 : Int32) := hM.at1 39 0 ((v6).toNatClampNeg)
                have c36 : (0 : Int32) ≤ (M.1 46 0 ((((10 : Int32) * v6) + p0)).toNatClampNeg) ∧ (M.1 46 0 ((((10 : Int32) * v6) + p0)).toNatClampNeg) ≤ (5 : Int32) := hM.at1 46 0 (((((10 : Int32) * v6) + p0)).toNatClampNeg)
                exact ⟨by grind, by grind⟩
              have p37 : ((-1) : Int32) ≤ v7 ∧ v7 ≤ (39 : Int32) := by
                exact ⟨by grind, by grind⟩
              exact s_X7_review_J75 (n := _) (f_X7_review_L18 M p0 n) ih k4 hk v6 p31 v7 p37 M hM (1 : Int32) ⟨by decide, by decide⟩ hF
            · have p38 : (0 : Int32) ≤ v6 ∧ v6 ≤ (39 : Int32) := by
                have c39 : (0 : Int32) ≤ (M.1 26 0 5) ∧ (M.1 26 0 5) ≤ (40 : Int32) := hM.at1 26 0 5
                have c40 : (0 : Int32) ≤ (M.1 43 0 (v6).toNatClampNeg) ∧ (M.1 43 0 (v6).toNatClampNeg) ≤ (1 : Int32) := hM.at1 43 0 ((v6).toNatClampNeg)
                have c41 : (0 : Int32) ≤ (M.1 42 0 (v6).toNatClampNeg) ∧ (M.1 42 0 (v6).toNatClampNeg) ≤ (65535 : Int32) := hM.at1 42 0 ((v6).toNatClampNeg)
                have c42 : (0 : Int32) ≤ (M.1 39 0 (v6).toNatClampNeg) ∧ (M.1 39 0 (v6).toNatClampNeg) ≤ (9 : Int32) := hM.at1 39 0 ((v6).toNatClampNeg)
                have c43 : (0 : Int32) ≤ (M.1 46 0 ((((10 : Int32) * v6) + p0)).toNatClampNeg) ∧ (M.1 46 0 ((((10 : Int32) * v6) + p0)).toNatClampNeg) ≤ (5 : Int32) := hM.at1 46 0 (((((10 : Int32) * v6) + p0)).toNatClampNeg)
                exact ⟨by grind, by grind⟩
              have p44 : ((-1) : Int32) ≤ v7 ∧ v7 ≤ (39 : Int32) := by
                exact ⟨by grind, by grind⟩
              exact s_X7_review_J74 (n := _) (f_X7_review_L18 M p0 n) ih k4 hk v6 p38 v7 p44 M hM hF
        · have p45 : (0 : Int32) ≤ v6 ∧ v6 ≤ (39 : Int32) := by
            have c46 : (0 : Int32) ≤ (M.1 26 0 5) ∧ (M.1 26 0 5) ≤ (40 : Int32) := hM.at1 26 0 5
            have c47 : (0 : Int32) ≤ (M.1 43 0 (v6).toNatClampNeg) ∧ (M.1 43 0 (v6).toNatClampNeg) ≤ (1 : Int32) := hM.at1 43 0 ((v6).toNatClampNeg)
            have c48 : (0 : Int32) ≤ (M.1 42 0 (v6).toNatClampNeg) ∧ (M.1 42 0 (v6).toNatClampNeg) ≤ (65535 : Int32) := hM.at1 42 0 ((v6).toNatClampNeg)
            exact ⟨by grind, by grind⟩
          have p49 : ((-1) : Int32) ≤ v7 ∧ v7 ≤ (39 : Int32) := by
            exact ⟨by grind, by grind⟩
          exact s_X7_review_J74 (n := _) (f_X7_review_L18 M p0 n) ih k4 hk v6 p45 v7 p49 M hM hF
theorem s_X7_review {A : Nat → Nat → Nat → Prop} {B : SS} (M : SS) (hM : IV A B M) (p0 : Int32) (a1 : A 26 0 9) : ok (f_X7_review M p0) (fun r => IV A B r.1 ∧ True) := by
  unfold f_X7_review
  refine ok_b0 (s_X7_isMember M hM p0) (fun v1 w1 => ?_)
  have w2 : (0 : Int32) ≤ v1 ∧ v1 ≤ (1 : Int32) ∧ ((v1 = 0 ∧ (p0 < 0 ∨ (M.1 26 0 4) ≤ p0)) ∨ (v1 = 1 ∧ 0 ≤ p0 ∧ p0 < (M.1 26 0 4))) := w1
  refine ok_ite (fun q3 => ?_) (fun q3 => ?_)
  · refine ok_b1 (s_X7_fails M hM (1 : Int32) ⟨by decide, by decide⟩ (a1)) (fun M33 v32 w4 => ?_)
    have hM33 : IV A B M33 := w4.1
    have w5 : (0 : Int32) ≤ v32 ∧ v32 ≤ (0 : Int32) := w4.2
    exact ok_some ⟨hM33, trivial⟩
  · have p6 : (0 : Int32) ≤ p0 ∧ p0 ≤ (9 : Int32) := by
      exact ⟨by grind, by grind⟩
    have p7 : FU (0 : Int32) 40 1000 := by
      exact FU.start (by grind) (by decide)
    refine s_X7_review_L18 M hM p0 p6 1000 (0 : Int32) ((-1) : Int32) _ p7 ⟨by decide, by decide⟩ ⟨by decide, by decide⟩ (fun v5 wv5 => ?_)
    have wv5 : ((-1) : Int32) ≤ v5 ∧ v5 ≤ (39 : Int32) := wv5
    refine ok_ite (fun q8 => ?_) (fun q8 => ?_)
    · refine ok_b1 (s_X7_fails M hM (2 : Int32) ⟨by decide, by decide⟩ (a1)) (fun M13 v12 w9 => ?_)
      have hM13 : IV A B M13 := w9.1
      have w10 : (0 : Int32) ≤ v12 ∧ v12 ≤ (0 : Int32) := w9.2
      exact ok_some ⟨hM13, trivial⟩
    · refine ok_b1 (s_X7_tells M hM v5 (a1)) (fun M10 v9 w11 => ?_)
      have hM10 : IV A B M10 := w11.1
      exact ok_some ⟨hM10, trivial⟩
theorem s_X7_best {A : Nat → Nat → Nat → Prop} {B : SS} (M : SS) (hM : IV A B M) (p0 : Int32) (p1 : Int32) (a1 : A 26 0 9) : ok (f_X7_best M p0 p1) (fun r => IV A B r.1 ∧ True) := by
  unfold f_X7_best
  refine ok_b0 (s_X7_isMember M hM p0) (fun v1 w1 => ?_)
  have w2 : (0 : Int32) ≤ v1 ∧ v1 ≤ (1 : Int32) ∧ ((v1 = 0 ∧ (p0 < 0 ∨ (M.1 26 0 4) ≤ p0)) ∨ (v1 = 1 ∧ 0 ≤ p0 ∧ p0 < (M.1 26 0 4))) := w1
  refine ok_ite (fun q3 => ?_) (fun q3 => ?_)
  · refine ok_b1 (s_X7_fails M hM (1 : Int32) ⟨by decide, by decide⟩ (a1)) (fun M5 v4 w4 => ?_)
    have hM5 : IV A B M5 := w4.1
    have w5 : (0 : Int32) ≤ v4 ∧ v4 ≤ (0 : Int32) := w4.2
    exact ok_some ⟨hM5, trivial⟩
  · refine ok_b0 (s_X7_isKata M hM p1) (fun v7 w6 => ?_)
    have w7 : (0 : Int32) ≤ v7 ∧ v7 ≤ (1 : Int32) ∧ ((v7 = 0 ∧ (p1 < 0 ∨ (M.1 26 0 3) ≤ p1)) ∨ (v7 = 1 ∧ 0 ≤ p1 ∧ p1 < (M.1 26 0 3))) := w6
    refine ok_ite (fun q8 => ?_) (fun q8 => ?_)
    · refine ok_b1 (s_X7_fails M hM (1 : Int32) ⟨by decide, by decide⟩ (a1)) (fun M20 v19 w9 => ?_)
      have hM20 : IV A B M20 := w9.1
      have w10 : (0 : Int32) ≤ v19 ∧ v19 ≤ (0 : Int32) := w9.2
      exact ok_some ⟨hM20, trivial⟩
    · have p11 : (0 : Int32) ≤ p1 ∧ p1 ≤ (7 : Int32) := by
        exact ⟨by grind, by grind⟩
      refine ok_b0 (s_X7_bestOf M hM p0 p1 p11) (fun v10 w12 => ?_)
      have w13 : ((-1) : Int32) ≤ v10 ∧ v10 ≤ (39 : Int32) := w12
      refine ok_ite (fun q14 => ?_) (fun q14 => ?_)
      · refine ok_b1 (s_X7_fails M hM (2 : Int32) ⟨by decide, by decide⟩ (a1)) (fun M17 v16 w15 => ?_)
        have hM17 : IV A B M17 := w15.1
        have w16 : (0 : Int32) ≤ v16 ∧ v16 ≤ (0 : Int32) := w15.2
        exact ok_some ⟨hM17, trivial⟩
      · refine ok_b1 (s_X7_tells M hM v10 (a1)) (fun M14 v13 w17 => ?_)
        have hM14 : IV A B M14 := w17.1
        exact ok_some ⟨hM14, trivial⟩
theorem s_X7_points {A : Nat → Nat → Nat → Prop} {B : SS} (M : SS) (hM : IV A B M) (p0 : Int32) (a1 : A 26 0 9) : ok (f_X7_points M p0) (fun r => IV A B r.1 ∧ vf_n32 r.2) := by
  unfold f_X7_points
  refine ok_b0 (s_X7_isMember M hM p0) (fun v1 w1 => ?_)
  have w2 : (0 : Int32) ≤ v1 ∧ v1 ≤ (1 : Int32) ∧ ((v1 = 0 ∧ (p0 < 0 ∨ (M.1 26 0 4) ≤ p0)) ∨ (v1 = 1 ∧ 0 ≤ p0 ∧ p0 < (M.1 26 0 4))) := w1
  refine ok_ite (fun q3 => ?_) (fun q3 => ?_)
  · unfold f_X7_points_J14
    refine ok_lq (fun M5 e4 => ?_)
    have hM5 : IV A B M5 := by rw [e4]; exact hM.u1 rfl (a1) ⟨by decide, by decide⟩
    refine ok_ite (fun q5 => ?_) (fun q5 => ?_)
    · refine ok_b0 (s_X7_pointsOf M5 hM5 p0) (fun v7 w6 => ?_)
      have nv7 : vf_n32 v7 := w6
      exact ok_some ⟨hM5, nv7⟩
    · exact ok_some ⟨hM5, nn_f0⟩
  · unfold f_X7_points_J14
    refine ok_lq (fun M5 e7 => ?_)
    have hM5 : IV A B M5 := by rw [e7]; exact hM.u1 rfl (a1) ⟨by decide, by decide⟩
    refine ok_ite (fun q8 => ?_) (fun q8 => ?_)
    · refine ok_b0 (s_X7_pointsOf M5 hM5 p0) (fun v7 w9 => ?_)
      have nv7 : vf_n32 v7 := w9
      exact ok_some ⟨hM5, nv7⟩
    · exact ok_some ⟨hM5, nn_f0⟩
theorem s_X7_belt {A : Nat → Nat → Nat → Prop} {B : SS} (M : SS) (hM : IV A B M) (p0 : Int32) (a1 : A 26 0 9) : ok (f_X7_belt M p0) (fun r => IV A B r.1 ∧ True) := by
  unfold f_X7_belt
  refine ok_b0 (s_X7_isMember M hM p0) (fun v1 w1 => ?_)
  have w2 : (0 : Int32) ≤ v1 ∧ v1 ≤ (1 : Int32) ∧ ((v1 = 0 ∧ (p0 < 0 ∨ (M.1 26 0 4) ≤ p0)) ∨ (v1 = 1 ∧ 0 ≤ p0 ∧ p0 < (M.1 26 0 4))) := w1
  refine ok_ite (fun q3 => ?_) (fun q3 => ?_)
  · refine ok_b1 (s_X7_fails M hM (1 : Int32) ⟨by decide, by decide⟩ (a1)) (fun M5 v4 w4 => ?_)
    have hM5 : IV A B M5 := w4.1
    have w5 : (0 : Int32) ≤ v4 ∧ v4 ≤ (0 : Int32) := w4.2
    exact ok_some ⟨hM5, trivial⟩
  · have p6 : (0 : Int32) ≤ p0 ∧ p0 ≤ (9 : Int32) := by
      exact ⟨by grind, by grind⟩
    refine ok_b0 (s_X7_beltOf M hM p0 p6) (fun v7 w7 => ?_)
    have w8 : (0 : Int32) ≤ v7 ∧ v7 ≤ (5 : Int32) := w7
    refine ok_b1 (s_X7_tells M hM v7 (a1)) (fun M10 v9 w9 => ?_)
    have hM10 : IV A B M10 := w9.1
    exact ok_some ⟨hM10, trivial⟩
theorem s_X7_honour {A : Nat → Nat → Nat → Prop} {B : SS} (M : SS) (hM : IV A B M) (p0 : Int32) (a1 : A 26 0 9) : ok (f_X7_honour M p0) (fun r => IV A B r.1 ∧ True) := by
  unfold f_X7_honour
  refine ok_b0 (s_X7_isMember M hM p0) (fun v1 w1 => ?_)
  have w2 : (0 : Int32) ≤ v1 ∧ v1 ≤ (1 : Int32) ∧ ((v1 = 0 ∧ (p0 < 0 ∨ (M.1 26 0 4) ≤ p0)) ∨ (v1 = 1 ∧ 0 ≤ p0 ∧ p0 < (M.1 26 0 4))) := w1
  refine ok_ite (fun q3 => ?_) (fun q3 => ?_)
  · refine ok_b1 (s_X7_fails M hM (1 : Int32) ⟨by decide, by decide⟩ (a1)) (fun M5 v4 w4 => ?_)
    have hM5 : IV A B M5 := w4.1
    have w5 : (0 : Int32) ≤ v4 ∧ v4 ≤ (0 : Int32) := w4.2
    exact ok_some ⟨hM5, trivial⟩
  · refine ok_gd ?_ (fun g6 => ?_)
    · exact vp_of (by decide) (by grind) (show p0 < (10 : Int32) by grind)
    have g6 := vp_to (by decide) g6
    have g6 : (0 : Int32) ≤ p0 ∧ p0 < (10 : Int32) := g6
    refine ok_b1 (s_X7_tells M hM (M.1 51 0 (p0).toNatClampNeg) (a1)) (fun M9 v8 w7 => ?_)
    have hM9 : IV A B M9 := w7.1
    exact ok_some ⟨hM9, trivial⟩
theorem s_X7_isAheadOf {A : Nat → Nat → Nat → Prop} {B : SS} (M : SS) (hM : IV A B M) (p0 : Int32) (ip0 : (0 : Int32) ≤ p0 ∧ p0 ≤ (9 : Int32)) (p1 : Int32) (ip1 : (0 : Int32) ≤ p1 ∧ p1 ≤ (9 : Int32)) : ok (f_X7_isAheadOf M p0 p1) (fun r => (0 : Int32) ≤ r ∧ r ≤ (1 : Int32)) := by
  unfold f_X7_isAheadOf
  have p1 : (0 : Int32) ≤ p0 ∧ p0 ≤ (9 : Int32) := by
    exact ⟨by grind, by grind⟩
  refine ok_b0 (s_X7_beltOf M hM p0 p1) (fun v1 w2 => ?_)
  have w3 : (0 : Int32) ≤ v1 ∧ v1 ≤ (5 : Int32) := w2
  have p4 : (0 : Int32) ≤ p1 ∧ p1 ≤ (9 : Int32) := by
    exact ⟨by grind, by grind⟩
  refine ok_b0 (s_X7_beltOf M hM p1 p4) (fun v3 w5 => ?_)
  have w6 : (0 : Int32) ≤ v3 ∧ v3 ≤ (5 : Int32) := w5
  refine ok_ite (fun q7 => ?_) (fun q7 => ?_)
  · refine ok_b0 (s_X7_pointsOf M hM p0) (fun v6 w8 => ?_)
    have nv6 : vf_n32 v6 := w8
    refine ok_b0 (s_X7_pointsOf M hM p1) (fun v8 w9 => ?_)
    have nv8 : vf_n32 v8 := w9
    refine ok_ite (fun q10 => ?_) (fun q10 => ?_)
    · have p11 : (0 : Int32) ≤ (1 : Int32) ∧ (1 : Int32) ≤ (1 : Int32) := by
        exact ⟨by grind, by grind⟩
      exact ok_some p11
    · refine ok_b0 (s_X7_pointsOf M hM p0) (fun v11 w12 => ?_)
      have nv11 : vf_n32 v11 := w12
      refine ok_b0 (s_X7_pointsOf M hM p1) (fun v13 w13 => ?_)
      have nv13 : vf_n32 v13 := w13
      refine ok_ite (fun q14 => ?_) (fun q14 => ?_)
      · refine ok_ite (fun q15 => ?_) (fun q15 => ?_)
        · have p16 : (0 : Int32) ≤ (0 : Int32) ∧ (0 : Int32) ≤ (1 : Int32) := by
            exact ⟨by grind, by grind⟩
          exact ok_some p16
        · have p17 : (0 : Int32) ≤ (1 : Int32) ∧ (1 : Int32) ≤ (1 : Int32) := by
            exact ⟨by grind, by grind⟩
          exact ok_some p17
      · have p18 : (0 : Int32) ≤ (0 : Int32) ∧ (0 : Int32) ≤ (1 : Int32) := by
          exact ⟨by grind, by grind⟩
        exact ok_some p18
  · have p19 : (0 : Int32) ≤ p0 ∧ p0 ≤ (9 : Int32) := by
      exact ⟨by grind, by grind⟩
    refine ok_b0 (s_X7_beltOf M hM p0 p19) (fun v17 w20 => ?_)
    have w21 : (0 : Int32) ≤ v17 ∧ v17 ≤ (5 : Int32) := w20
    have p22 : (0 : Int32) ≤ p1 ∧ p1 ≤ (9 : Int32) := by
      exact ⟨by grind, by grind⟩
    refine ok_b0 (s_X7_beltOf M hM p1 p22) (fun v19 w23 => ?_)
    have w24 : (0 : Int32) ≤ v19 ∧ v19 ≤ (5 : Int32) := w23
    refine ok_ite (fun q25 => ?_) (fun q25 => ?_)
    · have p26 : (0 : Int32) ≤ (0 : Int32) ∧ (0 : Int32) ≤ (1 : Int32) := by
        exact ⟨by grind, by grind⟩
      exact ok_some p26
    · have p27 : (0 : Int32) ≤ (1 : Int32) ∧ (1 : Int32) ≤ (1 : Int32) := by
        exact ⟨by grind, by grind⟩
      exact ok_some p27
theorem s_X7_ranked_L15 {A : Nat → Nat → Nat → Prop} {B : SS} (M : SS) (hM : IV A B M) (v2 : Int32) (iv2 : (0 : Int32) ≤ v2 ∧ v2 ≤ (9 : Int32)) : ∀ (n : Nat), ∀ (v9 : Int32) (v10 : Int32) (k7 : (Int32 → Option (SS × Int32))), (FU v9 10 n) → ((0 : Int32) ≤ v9 ∧ v9 ≤ (10 : Int32)) → (∀ (k_0 : Int32), ok (k7 k_0) (fun r => IV A B r.1 ∧ True)) → ok (f_X7_ranked_L15 M v2 n v9 v10 k7) (fun r => IV A B r.1 ∧ True) := by
  intro n
  induction n with
  | zero =>
    intro v9 v10 k7 hF iv9 hk
    exact (FU.stop hF (show v9 ≤ (10 : Int32) by grind)).elim
  | succ n ih =>
    intro v9 v10 k7 hF iv9 hk
    rw [f_X7_ranked_L15]
    refine ok_ite (fun q1 => ?_) (fun q1 => ?_)
    · exact hk v10
    · refine ok_ite (fun q2 => ?_) (fun q2 => ?_)
      · refine ok_lq (fun v17 e3 => ?_)
        have p4 : FU (v9 + (1 : Int32)) 10 _ := by
          have c5 : (0 : Int32) ≤ (M.1 26 0 4) ∧ (M.1 26 0 4) ≤ (10 : Int32) := hM.at1 26 0 4
          exact FU.step hF (by grind)
        have p6 : (0 : Int32) ≤ (v9 + (1 : Int32)) ∧ (v9 + (1 : Int32)) ≤ (10 : Int32) := by
          have c7 : (0 : Int32) ≤ (M.1 26 0 4) ∧ (M.1 26 0 4) ≤ (10 : Int32) := hM.at1 26 0 4
          exact ⟨by grind, by grind⟩
        exact ih (v9 + (1 : Int32)) v17 k7 p4 p6 hk
      · have p8 : (0 : Int32) ≤ v9 ∧ v9 ≤ (9 : Int32) := by
          have c9 : (0 : Int32) ≤ (M.1 26 0 4) ∧ (M.1 26 0 4) ≤ (10 : Int32) := hM.at1 26 0 4
          exact ⟨by grind, by grind⟩
        have p10 : (0 : Int32) ≤ v2 ∧ v2 ≤ (9 : Int32) := by
          have c11 : (0 : Int32) ≤ (M.1 26 0 4) ∧ (M.1 26 0 4) ≤ (10 : Int32) := hM.at1 26 0 4
          exact ⟨by grind, by grind⟩
        refine ok_b0 (s_X7_isAheadOf M hM v9 p8 v2 p10) (fun v18 w12 => ?_)
        have w13 : (0 : Int32) ≤ v18 ∧ v18 ≤ (1 : Int32) := w12
        refine ok_ite (fun q14 => ?_) (fun q14 => ?_)
        · refine ok_lq (fun v21 e15 => ?_)
          have p16 : FU (v9 + (1 : Int32)) 10 _ := by
            have c17 : (0 : Int32) ≤ (M.1 26 0 4) ∧ (M.1 26 0 4) ≤ (10 : Int32) := hM.at1 26 0 4
            exact FU.step hF (by grind)
          have p18 : (0 : Int32) ≤ (v9 + (1 : Int32)) ∧ (v9 + (1 : Int32)) ≤ (10 : Int32) := by
            have c19 : (0 : Int32) ≤ (M.1 26 0 4) ∧ (M.1 26 0 4) ≤ (10 : Int32) := hM.at1 26 0 4
            exact ⟨by grind, by grind⟩
          exact ih (v9 + (1 : Int32)) v21 k7 p16 p18 hk
        · refine ok_lq (fun v22 e20 => ?_)
          have p21 : FU (v9 + (1 : Int32)) 10 _ := by
            have c22 : (0 : Int32) ≤ (M.1 26 0 4) ∧ (M.1 26 0 4) ≤ (10 : Int32) := hM.at1 26 0 4
            exact FU.step hF (by grind)
          have p23 : (0 : Int32) ≤ (v9 + (1 : Int32)) ∧ (v9 + (1 : Int32)) ≤ (10 : Int32) := by
            have c24 : (0 : Int32) ≤ (M.1 26 0 4) ∧ (M.1 26 0 4) ≤ (10 : Int32) := hM.at1 26 0 4
            exact ⟨by grind, by grind⟩
          exact ih (v9 + (1 : Int32)) v22 k7 p21 p23 hk
theorem s_X7_ranked_L2 {A : Nat → Nat → Nat → Prop} {B : SS} (M : SS) (hM : IV A B M) (p0 : Int32) (a1 : A 26 0 9) : ∀ (n : Nat), ∀ (v2 : Int32) (k1 : (Unit → Option (SS × Int32))), (FU v2 10 n) → ((0 : Int32) ≤ v2 ∧ v2 ≤ (10 : Int32)) → (∀ (k_0 : Unit), ok (k1 k_0) (fun r => IV A B r.1 ∧ True)) → ok (f_X7_ranked_L2 M p0 n v2 k1) (fun r => IV A B r.1 ∧ True) := by
  intro n
  induction n with
  | zero =>
    intro v2 k1 hF iv2 hk
    exact (FU.stop hF (show v2 ≤ (10 : Int32) by grind)).elim
  | succ n ih =>
    intro v2 k1 hF iv2 hk
    rw [f_X7_ranked_L2]
    refine ok_ite (fun q1 => ?_) (fun q1 => ?_)
    · exact hk ()
    · have p2 : (0 : Int32) ≤ v2 ∧ v2 ≤ (9 : Int32) := by
        have c3 : (0 : Int32) ≤ (M.1 26 0 4) ∧ (M.1 26 0 4) ≤ (10 : Int32) := hM.at1 26 0 4
        exact ⟨by grind, by grind⟩
      have p4 : FU (0 : Int32) 10 1000 := by
        exact FU.start (by grind) (by decide)
      refine s_X7_ranked_L15 M hM v2 p2 1000 (0 : Int32) (0 : Int32) _ p4 ⟨by decide, by decide⟩ (fun v8 => ?_)
      refine ok_ite (fun q5 => ?_) (fun q5 => ?_)
      · refine ok_b1 (s_X7_tells M hM v2 (a1)) (fun M13 v12 w6 => ?_)
        have hM13 : IV A B M13 := w6.1
        exact ok_some ⟨hM13, trivial⟩
      · have p7 : FU (v2 + (1 : Int32)) 10 _ := by
          have c8 : (0 : Int32) ≤ (M.1 26 0 4) ∧ (M.1 26 0 4) ≤ (10 : Int32) := hM.at1 26 0 4
          exact FU.step hF (by grind)
        have p9 : (0 : Int32) ≤ (v2 + (1 : Int32)) ∧ (v2 + (1 : Int32)) ≤ (10 : Int32) := by
          have c10 : (0 : Int32) ≤ (M.1 26 0 4) ∧ (M.1 26 0 4) ≤ (10 : Int32) := hM.at1 26 0 4
          exact ⟨by grind, by grind⟩
        exact ih (v2 + (1 : Int32)) k1 p7 p9 hk
theorem s_X7_ranked {A : Nat → Nat → Nat → Prop} {B : SS} (M : SS) (hM : IV A B M) (p0 : Int32) (a1 : A 26 0 9) : ok (f_X7_ranked M p0) (fun r => IV A B r.1 ∧ True) := by
  unfold f_X7_ranked
  have p1 : FU (0 : Int32) 10 1000 := by
    exact FU.start (by grind) (by decide)
  refine s_X7_ranked_L2 M hM p0 (a1) 1000 (0 : Int32) _ p1 ⟨by decide, by decide⟩ (fun _ => ?_)
  refine ok_b1 (s_X7_fails M hM (1 : Int32) ⟨by decide, by decide⟩ (a1)) (fun M4 v3 w2 => ?_)
  have hM4 : IV A B M4 := w2.1
  have w3 : (0 : Int32) ≤ v3 ∧ v3 ≤ (0 : Int32) := w2.2
  exact ok_some ⟨hM4, trivial⟩
theorem s_X7_openCount_L4 {A : Nat → Nat → Nat → Prop} {B : SS} (M : SS) (hM : IV A B M) : ∀ (n : Nat), ∀ (v3 : Int32) (v4 : Int32) (k1 : (Int32 → Option (Int32))), (FU v3 40 n) → ((0 : Int32) ≤ v3 ∧ v3 ≤ (40 : Int32)) → (∀ (k_0 : Int32), ok (k1 k_0) (fun r => True)) → ok (f_X7_openCount_L4 M n v3 v4 k1) (fun r => True) := by
  intro n
  induction n with
  | zero =>
    intro v3 v4 k1 hF iv3 hk
    exact (FU.stop hF (show v3 ≤ (40 : Int32) by grind)).elim
  | succ n ih =>
    intro v3 v4 k1 hF iv3 hk
    rw [f_X7_openCount_L4]
    refine ok_ite (fun q1 => ?_) (fun q1 => ?_)
    · exact hk v4
    · refine ok_gd ?_ (fun g2 => ?_)
      · have c3 : (0 : Int32) ≤ (M.1 26 0 5) ∧ (M.1 26 0 5) ≤ (40 : Int32) := hM.at1 26 0 5
        exact vp_of (by decide) (by grind) (show v3 < (40 : Int32) by grind)
      have g2 := vp_to (by decide) g2
      have g2 : (0 : Int32) ≤ v3 ∧ v3 < (40 : Int32) := g2
      refine ok_ite (fun q4 => ?_) (fun q4 => ?_)
      · refine ok_lq (fun v9 e5 => ?_)
        have p6 : FU (v3 + (1 : Int32)) 40 _ := by
          have c7 : (0 : Int32) ≤ (M.1 26 0 5) ∧ (M.1 26 0 5) ≤ (40 : Int32) := hM.at1 26 0 5
          have c8 : (0 : Int32) ≤ (M.1 42 0 (v3).toNatClampNeg) ∧ (M.1 42 0 (v3).toNatClampNeg) ≤ (65535 : Int32) := hM.at1 42 0 ((v3).toNatClampNeg)
          exact FU.step hF (by grind)
        have p9 : (0 : Int32) ≤ (v3 + (1 : Int32)) ∧ (v3 + (1 : Int32)) ≤ (40 : Int32) := by
          have c10 : (0 : Int32) ≤ (M.1 26 0 5) ∧ (M.1 26 0 5) ≤ (40 : Int32) := hM.at1 26 0 5
          have c11 : (0 : Int32) ≤ (M.1 42 0 (v3).toNatClampNeg) ∧ (M.1 42 0 (v3).toNatClampNeg) ≤ (65535 : Int32) := hM.at1 42 0 ((v3).toNatClampNeg)
          exact ⟨by grind, by grind⟩
        exact ih (v3 + (1 : Int32)) v9 k1 p6 p9 hk
      · refine ok_lq (fun v8 e12 => ?_)
        have p13 : FU (v3 + (1 : Int32)) 40 _ := by
          have c14 : (0 : Int32) ≤ (M.1 26 0 5) ∧ (M.1 26 0 5) ≤ (40 : Int32) := hM.at1 26 0 5
          have c15 : (0 : Int32) ≤ (M.1 42 0 (v3).toNatClampNeg) ∧ (M.1 42 0 (v3).toNatClampNeg) ≤ (65535 : Int32) := hM.at1 42 0 ((v3).toNatClampNeg)
          exact FU.step hF (by grind)
        have p16 : (0 : Int32) ≤ (v3 + (1 : Int32)) ∧ (v3 + (1 : Int32)) ≤ (40 : Int32) := by
          have c17 : (0 : Int32) ≤ (M.1 26 0 5) ∧ (M.1 26 0 5) ≤ (40 : Int32) := hM.at1 26 0 5
          have c18 : (0 : Int32) ≤ (M.1 42 0 (v3).toNatClampNeg) ∧ (M.1 42 0 (v3).toNatClampNeg) ≤ (65535 : Int32) := hM.at1 42 0 ((v3).toNatClampNeg)
          exact ⟨by grind, by grind⟩
        exact ih (v3 + (1 : Int32)) v8 k1 p13 p16 hk
theorem s_X7_openCount {A : Nat → Nat → Nat → Prop} {B : SS} (M : SS) (hM : IV A B M) : ok (f_X7_openCount M) (fun r => True) := by
  unfold f_X7_openCount
  have p1 : FU (0 : Int32) 40 1000 := by
    exact FU.start (by grind) (by decide)
  refine s_X7_openCount_L4 M hM 1000 (0 : Int32) (0 : Int32) _ p1 ⟨by decide, by decide⟩ (fun v2 => ?_)
  exact ok_some trivial
theorem s_X7_challenge {A : Nat → Nat → Nat → Prop} {B : SS} (M : SS) (hM : IV A B M) (p0 : Int32) (p1 : Int32) (a1 : A 26 0 8) (a2 : A 26 0 9) (a3 : A 42 0 (p1).toNatClampNeg) (a4 : A 48 0 (p1).toNatClampNeg) (a5 : A 49 0 (p1).toNatClampNeg) (a6 : A 50 0 (p1).toNatClampNeg) (a7 : A 51 0 (p0).toNatClampNeg) : ok (f_X7_challenge M p0 p1) (fun r => IV A B r.1 ∧ True) := by
  unfold f_X7_challenge
  refine ok_b0 (s_X7_isMember M hM p0) (fun v1 w1 => ?_)
  have w2 : (0 : Int32) ≤ v1 ∧ v1 ≤ (1 : Int32) ∧ ((v1 = 0 ∧ (p0 < 0 ∨ (M.1 26 0 4) ≤ p0)) ∨ (v1 = 1 ∧ 0 ≤ p0 ∧ p0 < (M.1 26 0 4))) := w1
  refine ok_ite (fun q3 => ?_) (fun q3 => ?_)
  · refine ok_b1 (s_X7_fails M hM (1 : Int32) ⟨by decide, by decide⟩ (a2)) (fun M5 v4 w4 => ?_)
    have hM5 : IV A B M5 := w4.1
    have w5 : (0 : Int32) ≤ v4 ∧ v4 ≤ (0 : Int32) := w4.2
    exact ok_some ⟨hM5, trivial⟩
  · refine ok_b0 (s_X7_isWork M hM p1) (fun v7 w6 => ?_)
    have w7 : (0 : Int32) ≤ v7 ∧ v7 ≤ (1 : Int32) ∧ ((v7 = 0 ∧ (p1 < 0 ∨ (M.1 26 0 5) ≤ p1)) ∨ (v7 = 1 ∧ 0 ≤ p1 ∧ p1 < (M.1 26 0 5))) := w6
    refine ok_ite (fun q8 => ?_) (fun q8 => ?_)
    · refine ok_b1 (s_X7_fails M hM (1 : Int32) ⟨by decide, by decide⟩ (a2)) (fun M49 v48 w9 => ?_)
      have hM49 : IV A B M49 := w9.1
      have w10 : (0 : Int32) ≤ v48 ∧ v48 ≤ (0 : Int32) := w9.2
      exact ok_some ⟨hM49, trivial⟩
    · refine ok_gd ?_ (fun g11 => ?_)
      · exact vp_of (by decide) (by grind) (show p1 < (40 : Int32) by grind)
      have g11 := vp_to (by decide) g11
      have g11 : (0 : Int32) ≤ p1 ∧ p1 < (40 : Int32) := g11
      refine ok_ite (fun q12 => ?_) (fun q12 => ?_)
      · refine ok_b1 (s_X7_fails M hM (2 : Int32) ⟨by decide, by decide⟩ (a2)) (fun M13 v12 w13 => ?_)
        have hM13 : IV A B M13 := w13.1
        have w14 : (0 : Int32) ≤ v12 ∧ v12 ≤ (0 : Int32) := w13.2
        exact ok_some ⟨hM13, trivial⟩
      · refine ok_gd ?_ (fun g15 => ?_)
        · have c16 : (0 : Int32) ≤ (M.1 39 0 (p1).toNatClampNeg) ∧ (M.1 39 0 (p1).toNatClampNeg) ≤ (9 : Int32) := hM.at1 39 0 ((p1).toNatClampNeg)
          exact vp_of (by decide) (by grind) (show p1 < (40 : Int32) by grind)
        have g15 := vp_to (by decide) g15
        have g15 : (0 : Int32) ≤ p1 ∧ p1 < (40 : Int32) := g15
        refine ok_ite (fun q17 => ?_) (fun q17 => ?_)
        · refine ok_gd ?_ (fun g18 => ?_)
          · have c19 : (0 : Int32) ≤ (M.1 39 0 (p1).toNatClampNeg) ∧ (M.1 39 0 (p1).toNatClampNeg) ≤ (9 : Int32) := hM.at1 39 0 ((p1).toNatClampNeg)
            have c20 : (0 : Int32) ≤ (M.1 42 0 (p1).toNatClampNeg) ∧ (M.1 42 0 (p1).toNatClampNeg) ≤ (65535 : Int32) := hM.at1 42 0 ((p1).toNatClampNeg)
            exact vp_of (by decide) (by grind) (show p0 < (10 : Int32) by grind)
          have g18 := vp_to (by decide) g18
          have g18 : (0 : Int32) ≤ p0 ∧ p0 < (10 : Int32) := g18
          refine ok_ite (fun q21 => ?_) (fun q21 => ?_)
          · refine ok_b0 (s_X7_openCount M hM) (fun v22 w22 => ?_)
            refine ok_ite (fun q23 => ?_) (fun q23 => ?_)
            · refine ok_b1 (s_X7_fails M hM (3 : Int32) ⟨by decide, by decide⟩ (a2)) (fun M43 v42 w24 => ?_)
              have hM43 : IV A B M43 := w24.1
              have w25 : (0 : Int32) ≤ v42 ∧ v42 ≤ (0 : Int32) := w24.2
              exact ok_some ⟨hM43, trivial⟩
            · refine ok_gd ?_ (fun g26 => ?_)
              · have c27 : (0 : Int32) ≤ (M.1 39 0 (p1).toNatClampNeg) ∧ (M.1 39 0 (p1).toNatClampNeg) ≤ (9 : Int32) := hM.at1 39 0 ((p1).toNatClampNeg)
                have c28 : (0 : Int32) ≤ (M.1 42 0 (p1).toNatClampNeg) ∧ (M.1 42 0 (p1).toNatClampNeg) ≤ (65535 : Int32) := hM.at1 42 0 ((p1).toNatClampNeg)
                exact vp_of (by decide) (by grind) (show p0 < (10 : Int32) by grind)
              have g26 := vp_to (by decide) g26
              have g26 : (0 : Int32) ≤ p0 ∧ p0 < (10 : Int32) := g26
              refine ok_gd ?_ (fun g29 => ?_)
              · have c30 : (0 : Int32) ≤ (M.1 39 0 (p1).toNatClampNeg) ∧ (M.1 39 0 (p1).toNatClampNeg) ≤ (9 : Int32) := hM.at1 39 0 ((p1).toNatClampNeg)
                have c31 : (0 : Int32) ≤ (M.1 42 0 (p1).toNatClampNeg) ∧ (M.1 42 0 (p1).toNatClampNeg) ≤ (65535 : Int32) := hM.at1 42 0 ((p1).toNatClampNeg)
                exact vp_of (by decide) (by grind) (show p0 < (10 : Int32) by grind)
              have g29 := vp_to (by decide) g29
              have g29 : (0 : Int32) ≤ p0 ∧ p0 < (10 : Int32) := g29
              refine ok_lq (fun M27 e32 => ?_)
              have hM27 : IV A B M27 := by rw [e32]; exact hM.u1f rfl (a7) rfl
              refine ok_gd ?_ (fun g33 => ?_)
              · have c34 : (0 : Int32) ≤ (M.1 39 0 (p1).toNatClampNeg) ∧ (M.1 39 0 (p1).toNatClampNeg) ≤ (9 : Int32) := hM.at1 39 0 ((p1).toNatClampNeg)
                have c35 : (0 : Int32) ≤ (M.1 42 0 (p1).toNatClampNeg) ∧ (M.1 42 0 (p1).toNatClampNeg) ≤ (65535 : Int32) := hM.at1 42 0 ((p1).toNatClampNeg)
                exact vp_of (by decide) (by grind) (show p1 < (40 : Int32) by grind)
              have g33 := vp_to (by decide) g33
              have g33 : (0 : Int32) ≤ p1 ∧ p1 < (40 : Int32) := g33
              refine ok_lq (fun M29 e36 => ?_)
              have p37 : (0 : Int32) ≤ (vp_nar .char (99 : Int32)) ∧ (vp_nar .char (99 : Int32)) ≤ (65535 : Int32) := by
                have c38 : (0 : Int32) ≤ (vp_nar .char (99 : Int32)) ∧ (vp_nar .char (99 : Int32)) ≤ (65535 : Int32) := nar_c _
                exact ⟨by grind, by grind⟩
              have hM29 : IV A B M29 := by rw [e36]; exact hM27.u1 rfl (a3) p37
              refine ok_gd ?_ (fun g39 => ?_)
              · have c40 : (0 : Int32) ≤ (M.1 39 0 (p1).toNatClampNeg) ∧ (M.1 39 0 (p1).toNatClampNeg) ≤ (9 : Int32) := hM.at1 39 0 ((p1).toNatClampNeg)
                have c41 : (0 : Int32) ≤ (M.1 42 0 (p1).toNatClampNeg) ∧ (M.1 42 0 (p1).toNatClampNeg) ≤ (65535 : Int32) := hM.at1 42 0 ((p1).toNatClampNeg)
                exact vp_of (by decide) (by grind) (show p1 < (40 : Int32) by grind)
              have g39 := vp_to (by decide) g39
              have g39 : (0 : Int32) ≤ p1 ∧ p1 < (40 : Int32) := g39
              refine ok_lq (fun M31 e42 => ?_)
              have p43 : (0 : Int32) ≤ p0 ∧ p0 ≤ (9 : Int32) := by
                have c44 : (0 : Int32) ≤ (M.1 39 0 (p1).toNatClampNeg) ∧ (M.1 39 0 (p1).toNatClampNeg) ≤ (9 : Int32) := hM.at1 39 0 ((p1).toNatClampNeg)
                have c45 : (0 : Int32) ≤ (M.1 42 0 (p1).toNatClampNeg) ∧ (M.1 42 0 (p1).toNatClampNeg) ≤ (65535 : Int32) := hM.at1 42 0 ((p1).toNatClampNeg)
                exact ⟨by grind, by grind⟩
              have hM31 : IV A B M31 := by rw [e42]; exact hM29.u1 rfl (a4) p43
              refine ok_gd ?_ (fun g46 => ?_)
              · have c47 : (0 : Int32) ≤ (M.1 39 0 (p1).toNatClampNeg) ∧ (M.1 39 0 (p1).toNatClampNeg) ≤ (9 : Int32) := hM.at1 39 0 ((p1).toNatClampNeg)
                have c48 : (0 : Int32) ≤ (M.1 42 0 (p1).toNatClampNeg) ∧ (M.1 42 0 (p1).toNatClampNeg) ≤ (65535 : Int32) := hM.at1 42 0 ((p1).toNatClampNeg)
                exact vp_of (by decide) (by grind) (show p1 < (40 : Int32) by grind)
              have g46 := vp_to (by decide) g46
              have g46 : (0 : Int32) ≤ p1 ∧ p1 < (40 : Int32) := g46
              refine ok_lq (fun M33 e49 => ?_)
              have hM33 : IV A B M33 := by rw [e49]; exact hM31.u1f rfl (a5) rfl
              refine ok_gd ?_ (fun g50 => ?_)
              · have c51 : (0 : Int32) ≤ (M.1 39 0 (p1).toNatClampNeg) ∧ (M.1 39 0 (p1).toNatClampNeg) ≤ (9 : Int32) := hM.at1 39 0 ((p1).toNatClampNeg)
                have c52 : (0 : Int32) ≤ (M.1 42 0 (p1).toNatClampNeg) ∧ (M.1 42 0 (p1).toNatClampNeg) ≤ (65535 : Int32) := hM.at1 42 0 ((p1).toNatClampNeg)
                exact vp_of (by decide) (by grind) (show p1 < (40 : Int32) by grind)
              have g50 := vp_to (by decide) g50
              have g50 : (0 : Int32) ≤ p1 ∧ p1 < (40 : Int32) := g50
              refine ok_lq (fun M35 e53 => ?_)
              have hM35 : IV A B M35 := by rw [e53]; exact hM33.u1f rfl (a6) rfl
              refine ok_lq (fun M36 e54 => ?_)
              have hM36 : IV A B M36 := by rw [e54]; exact hM35.u1f rfl (a1) rfl
              refine ok_b0 (s_X7_openCount M36 hM36) (fun v37 w55 => ?_)
              refine ok_b1 (s_X7_tells M36 hM36 v37 (a2)) (fun M40 v39 w56 => ?_)
              have hM40 : IV A B M40 := w56.1
              exact ok_some ⟨hM40, trivial⟩
          · refine ok_b1 (s_X7_fails M hM (2 : Int32) ⟨by decide, by decide⟩ (a2)) (fun M46 v45 w57 => ?_)
            have hM46 : IV A B M46 := w57.1
            have w58 : (0 : Int32) ≤ v45 ∧ v45 ≤ (0 : Int32) := w57.2
            exact ok_some ⟨hM46, trivial⟩
        · refine ok_b1 (s_X7_fails M hM (2 : Int32) ⟨by decide, by decide⟩ (a2)) (fun M18 v17 w59 => ?_)
          have hM18 : IV A B M18 := w59.1
          have w60 : (0 : Int32) ≤ v17 ∧ v17 ≤ (0 : Int32) := w59.2
          exact ok_some ⟨hM18, trivial⟩
theorem s_X7_closes {A : Nat → Nat → Nat → Prop} {B : SS} (M : SS) (hM : IV A B M) (p0 : Int32) (ip0 : (0 : Int32) ≤ p0 ∧ p0 ≤ (9 : Int32)) (p1 : Int32) (ip1 : (0 : Int32) ≤ p1 ∧ p1 ≤ (39 : Int32)) (a1 : A 26 0 38) (a2 : A 26 0 39) (a3 : A 26 0 40) (a4 : ∀ p, A 42 0 p) (a5 : ∀ p, A 43 0 p) (a6 : ∀ p, A 44 0 p) (a7 : ∀ p, A 45 0 p) (a8 : ∀ p, A 51 0 p) (a9 : ∀ p, A 53 0 p) (a10 : ∀ p, A 54 0 p) : ok (f_X7_closes M p0 p1) (fun r => IV A B r.1 ∧ (0 : Int32) ≤ r.2 ∧ r.2 ≤ (115 : Int32)) := by
  unfold f_X7_closes
  refine ok_gd ?_ (fun g1 => ?_)
  · exact vp_of (by decide) (by grind) (show p1 < (40 : Int32) by grind)
  have g1 := vp_to (by decide) g1
  have g1 : (0 : Int32) ≤ p1 ∧ p1 < (40 : Int32) := g1
  refine ok_lq (fun M2 e2 => ?_)
  have p3 : (0 : Int32) ≤ (vp_nar .boolean (1 : Int32)) ∧ (vp_nar .boolean (1 : Int32)) ≤ (1 : Int32) := by
    have c4 : (0 : Int32) ≤ (vp_nar .boolean (1 : Int32)) ∧ (vp_nar .boolean (1 : Int32)) ≤ (1 : Int32) := ⟨by decide, by decide⟩
    exact ⟨by grind, by grind⟩
  have hM2 : IV A B M2 := by rw [e2]; exact hM.u1 rfl (a5 ((p1).toNatClampNeg)) p3
  refine ok_gd ?_ (fun g5 => ?_)
  · exact vp_of (by decide) (by grind) (show p1 < (40 : Int32) by grind)
  have g5 := vp_to (by decide) g5
  have g5 : (0 : Int32) ≤ p1 ∧ p1 < (40 : Int32) := g5
  have p6 : (0 : Int32) ≤ p1 ∧ p1 ≤ (40 : Int32) := by
    exact ⟨by grind, by grind⟩
  have p7 : (0 : Int32) ≤ (M2.1 40 0 (p1).toNatClampNeg) ∧ (M2.1 40 0 (p1).toNatClampNeg) ≤ (7 : Int32) := by
    have c8 : (0 : Int32) ≤ (vp_nar .boolean (1 : Int32)) ∧ (vp_nar .boolean (1 : Int32)) ≤ (1 : Int32) := ⟨by decide, by decide⟩
    have c9 : (0 : Int32) ≤ (M2.1 40 0 (p1).toNatClampNeg) ∧ (M2.1 40 0 (p1).toNatClampNeg) ≤ (7 : Int32) := hM2.at1 40 0 ((p1).toNatClampNeg)
    have c10 : (M2.1 40 0 (p1).toNatClampNeg) = (M.1 40 0 (p1).toNatClampNeg) := by rw [e2]; exact up_k (by decide)
    have c11 : (0 : Int32) ≤ (M.1 40 0 (p1).toNatClampNeg) ∧ (M.1 40 0 (p1).toNatClampNeg) ≤ (7 : Int32) := hM.at1 40 0 ((p1).toNatClampNeg)
    exact ⟨by grind, by grind⟩
  refine ok_b1 (s_X7_passes M2 hM2 p1 p6 (M2.1 40 0 (p1).toNatClampNeg) p7 (a1) (a2) (a3) (fun p => a9 p) (fun p => a10 p)) (fun M5 v4 w12 => ?_)
  have hM5 : IV A B M5 := w12.1
  have w13 : (0 : Int32) ≤ v4 ∧ v4 ≤ (1 : Int32) := w12.2
  refine ok_ite (fun q14 => ?_) (fun q14 => ?_)
  · have p15 : (0 : Int32) ≤ p1 ∧ p1 ≤ (39 : Int32) := by
      exact ⟨by grind, by grind⟩
    refine ok_b1 (s_X7_loses M5 hM5 p1 p15 (98 : Int32) ⟨by decide, by decide⟩ (a1) (a2) (a3) (a4 ((p1).toNatClampNeg)) (a5 ((p1).toNatClampNeg)) (fun p => a6 p) (fun p => a7 p) (fun p => a9 p) (fun p => a10 p)) (fun M9 v8 w16 => ?_)
    have hM9 : IV A B M9 := w16.1
    have w17 : ((M9.1 43 0 ((98 : Int32)).toNatClampNeg) = 0) := w16.2
    refine ok_gd ?_ (fun g18 => ?_)
    · exact vp_of (by decide) (by grind) (show p1 < (40 : Int32) by grind)
    have g18 := vp_to (by decide) g18
    have g18 : (0 : Int32) ≤ p1 ∧ p1 < (40 : Int32) := g18
    refine ok_gd ?_ (fun g19 => ?_)
    · have c20 : (0 : Int32) ≤ (M9.1 48 0 (p1).toNatClampNeg) ∧ (M9.1 48 0 (p1).toNatClampNeg) ≤ (9 : Int32) := hM9.at1 48 0 ((p1).toNatClampNeg)
      exact vp_of (by decide) (by grind) (show (M9.1 48 0 (p1).toNatClampNeg) < (10 : Int32) by grind)
    have g19 := vp_to (by decide) g19
    have g19 : (0 : Int32) ≤ (M9.1 48 0 (p1).toNatClampNeg) ∧ (M9.1 48 0 (p1).toNatClampNeg) < (10 : Int32) := g19
    refine ok_gd ?_ (fun g21 => ?_)
    · have c22 : (0 : Int32) ≤ (M9.1 48 0 (p1).toNatClampNeg) ∧ (M9.1 48 0 (p1).toNatClampNeg) ≤ (9 : Int32) := hM9.at1 48 0 ((p1).toNatClampNeg)
      exact vp_of (by decide) (by grind) (show (M9.1 48 0 (p1).toNatClampNeg) < (10 : Int32) by grind)
    have g21 := vp_to (by decide) g21
    have g21 : (0 : Int32) ≤ (M9.1 48 0 (p1).toNatClampNeg) ∧ (M9.1 48 0 (p1).toNatClampNeg) < (10 : Int32) := g21
    refine ok_lq (fun M14 e23 => ?_)
    have hM14 : IV A B M14 := by rw [e23]; exact hM9.u1f rfl (a8 (((M9.1 48 0 (p1).toNatClampNeg)).toNatClampNeg)) rfl
    have p24 : (0 : Int32) ≤ (98 : Int32) ∧ (98 : Int32) ≤ (115 : Int32) := by
      exact ⟨by grind, by grind⟩
    exact ok_some ⟨hM14, p24⟩
  · refine ok_gd ?_ (fun g25 => ?_)
    · exact vp_of (by decide) (by grind) (show p1 < (40 : Int32) by grind)
    have g25 := vp_to (by decide) g25
    have g25 : (0 : Int32) ≤ p1 ∧ p1 < (40 : Int32) := g25
    refine ok_lq (fun M16 e26 => ?_)
    have p27 : (0 : Int32) ≤ (vp_nar .char (115 : Int32)) ∧ (vp_nar .char (115 : Int32)) ≤ (65535 : Int32) := by
      have c28 : (0 : Int32) ≤ (vp_nar .char (115 : Int32)) ∧ (vp_nar .char (115 : Int32)) ≤ (65535 : Int32) := nar_c _
      exact ⟨by grind, by grind⟩
    have hM16 : IV A B M16 := by rw [e26]; exact hM5.u1 rfl (a4 ((p1).toNatClampNeg)) p27
    refine ok_gd ?_ (fun g29 => ?_)
    · exact vp_of (by decide) (by grind) (show p0 < (10 : Int32) by grind)
    have g29 := vp_to (by decide) g29
    have g29 : (0 : Int32) ≤ p0 ∧ p0 < (10 : Int32) := g29
    refine ok_gd ?_ (fun g30 => ?_)
    · exact vp_of (by decide) (by grind) (show p0 < (10 : Int32) by grind)
    have g30 := vp_to (by decide) g30
    have g30 : (0 : Int32) ≤ p0 ∧ p0 < (10 : Int32) := g30
    refine ok_lq (fun M19 e31 => ?_)
    have hM19 : IV A B M19 := by rw [e31]; exact hM16.u1f rfl (a8 ((p0).toNatClampNeg)) rfl
    refine ok_b1 (s_X7_makesRoom M19 hM19 (a1) (a2) (a3) (fun p => a4 p) (fun p => a5 p) (fun p => a6 p) (fun p => a7 p) (fun p => a9 p) (fun p => a10 p)) (fun M21 v20 w32 => ?_)
    have hM21 : IV A B M21 := w32.1
    refine ok_ite (fun q33 => ?_) (fun q33 => ?_)
    · have p34 : (0 : Int32) ≤ (0 : Int32) ∧ (0 : Int32) ≤ (115 : Int32) := by
        exact ⟨by grind, by grind⟩
      exact ok_some ⟨hM21, p34⟩
    · have p35 : (0 : Int32) ≤ (115 : Int32) ∧ (115 : Int32) ≤ (115 : Int32) := by
        exact ⟨by grind, by grind⟩
      exact ok_some ⟨hM21, p35⟩
theorem s_X7_give {A : Nat → Nat → Nat → Prop} {B : SS} (M : SS) (hM : IV A B M) (p0 : Int32) (p1 : Int32) (a1 : A 26 0 38) (a2 : A 26 0 39) (a3 : A 26 0 40) (a4 : A 26 0 9) (a5 : ∀ p, A 42 0 p) (a6 : ∀ p, A 43 0 p) (a7 : ∀ p, A 44 0 p) (a8 : ∀ p, A 45 0 p) (a9 : ∀ p, A 51 0 p) (a10 : ∀ p, A 53 0 p) (a11 : ∀ p, A 54 0 p) : ok (f_X7_give M p0 p1) (fun r => IV A B r.1 ∧ (0 : Int32) ≤ r.2 ∧ r.2 ≤ (115 : Int32)) := by
  unfold f_X7_give
  refine ok_b0 (s_X7_isMember M hM p0) (fun v1 w1 => ?_)
  have w2 : (0 : Int32) ≤ v1 ∧ v1 ≤ (1 : Int32) ∧ ((v1 = 0 ∧ (p0 < 0 ∨ (M.1 26 0 4) ≤ p0)) ∨ (v1 = 1 ∧ 0 ≤ p0 ∧ p0 < (M.1 26 0 4))) := w1
  refine ok_ite (fun q3 => ?_) (fun q3 => ?_)
  · unfold f_X7_give_J17
    unfold f_X7_give_J50
    refine ok_lq (fun M5 e4 => ?_)
    have hM5 : IV A B M5 := by rw [e4]; exact hM.u1 rfl (a4) ⟨by decide, by decide⟩
    refine ok_ite (fun q5 => ?_) (fun q5 => ?_)
    · have p6 : (0 : Int32) ≤ p0 ∧ p0 ≤ (9 : Int32) := by
        exact ⟨by grind, by grind⟩
      have p7 : (0 : Int32) ≤ p1 ∧ p1 ≤ (39 : Int32) := by
        exact ⟨by grind, by grind⟩
      refine ok_b1 (s_X7_closes M5 hM5 p0 p6 p1 p7 (a1) (a2) (a3) (fun p => a5 p) (fun p => a6 p) (fun p => a7 p) (fun p => a8 p) (fun p => a9 p) (fun p => a10 p) (fun p => a11 p)) (fun M8 v7 w8 => ?_)
      have hM8 : IV A B M8 := w8.1
      have w9 : (0 : Int32) ≤ v7 ∧ v7 ≤ (115 : Int32) := w8.2
      refine ok_gd ?_ (fun g10 => ?_)
      · exact okc_of (by grind) (by grind)
      have p11 : (0 : Int32) ≤ v7 ∧ v7 ≤ (115 : Int32) := by
        exact ⟨by grind, by grind⟩
      exact ok_some ⟨hM8, p11⟩
    · have p12 : (0 : Int32) ≤ (0 : Int32) ∧ (0 : Int32) ≤ (115 : Int32) := by
        exact ⟨by grind, by grind⟩
      exact ok_some ⟨hM5, p12⟩
  · refine ok_b0 (s_X7_isWork M hM p1) (fun v13 w13 => ?_)
    have w14 : (0 : Int32) ≤ v13 ∧ v13 ≤ (1 : Int32) ∧ ((v13 = 0 ∧ (p1 < 0 ∨ (M.1 26 0 5) ≤ p1)) ∨ (v13 = 1 ∧ 0 ≤ p1 ∧ p1 < (M.1 26 0 5))) := w13
    refine ok_ite (fun q15 => ?_) (fun q15 => ?_)
    · unfold f_X7_give_J17
      unfold f_X7_give_J50
      refine ok_lq (fun M5 e16 => ?_)
      have hM5 : IV A B M5 := by rw [e16]; exact hM.u1 rfl (a4) ⟨by decide, by decide⟩
      refine ok_ite (fun q17 => ?_) (fun q17 => ?_)
      · have p18 : (0 : Int32) ≤ p0 ∧ p0 ≤ (9 : Int32) := by
          exact ⟨by grind, by grind⟩
        have p19 : (0 : Int32) ≤ p1 ∧ p1 ≤ (39 : Int32) := by
          exact ⟨by grind, by grind⟩
        refine ok_b1 (s_X7_closes M5 hM5 p0 p18 p1 p19 (a1) (a2) (a3) (fun p => a5 p) (fun p => a6 p) (fun p => a7 p) (fun p => a8 p) (fun p => a9 p) (fun p => a10 p) (fun p => a11 p)) (fun M8 v7 w20 => ?_)
        have hM8 : IV A B M8 := w20.1
        have w21 : (0 : Int32) ≤ v7 ∧ v7 ≤ (115 : Int32) := w20.2
        refine ok_gd ?_ (fun g22 => ?_)
        · exact okc_of (by grind) (by grind)
        have p23 : (0 : Int32) ≤ v7 ∧ v7 ≤ (115 : Int32) := by
          exact ⟨by grind, by grind⟩
        exact ok_some ⟨hM8, p23⟩
      · have p24 : (0 : Int32) ≤ (0 : Int32) ∧ (0 : Int32) ≤ (115 : Int32) := by
          exact ⟨by grind, by grind⟩
        exact ok_some ⟨hM5, p24⟩
    · refine ok_gd ?_ (fun g25 => ?_)
      · exact vp_of (by decide) (by grind) (show p1 < (40 : Int32) by grind)
      have g25 := vp_to (by decide) g25
      have g25 : (0 : Int32) ≤ p1 ∧ p1 < (40 : Int32) := g25
      refine ok_ite (fun q26 => ?_) (fun q26 => ?_)
      · have p27 : (0 : Int32) ≤ p0 ∧ p0 ≤ (9 : Int32) := by
          exact ⟨by grind, by grind⟩
        have p28 : (0 : Int32) ≤ p1 ∧ p1 ≤ (39 : Int32) := by
          have c29 : (0 : Int32) ≤ (M.1 42 0 (p1).toNatClampNeg) ∧ (M.1 42 0 (p1).toNatClampNeg) ≤ (65535 : Int32) := hM.at1 42 0 ((p1).toNatClampNeg)
          exact ⟨by grind, by grind⟩
        refine ok_b0 (s_X7_hasCopy M hM p0 p27 p1 p28) (fun v18 w30 => ?_)
        have w31 : (0 : Int32) ≤ v18 ∧ v18 ≤ (1 : Int32) := w30
        refine ok_ite (fun q32 => ?_) (fun q32 => ?_)
        · unfold f_X7_give_J50
          refine ok_lq (fun M5 e33 => ?_)
          have hM5 : IV A B M5 := by rw [e33]; exact hM.u1 rfl (a4) ⟨by decide, by decide⟩
          refine ok_ite (fun q34 => ?_) (fun q34 => ?_)
          · have p35 : (0 : Int32) ≤ p0 ∧ p0 ≤ (9 : Int32) := by
              exact ⟨by grind, by grind⟩
            have p36 : (0 : Int32) ≤ p1 ∧ p1 ≤ (39 : Int32) := by
              have c37 : (0 : Int32) ≤ (M.1 42 0 (p1).toNatClampNeg) ∧ (M.1 42 0 (p1).toNatClampNeg) ≤ (65535 : Int32) := hM.at1 42 0 ((p1).toNatClampNeg)
              exact ⟨by grind, by grind⟩
            refine ok_b1 (s_X7_closes M5 hM5 p0 p35 p1 p36 (a1) (a2) (a3) (fun p => a5 p) (fun p => a6 p) (fun p => a7 p) (fun p => a8 p) (fun p => a9 p) (fun p => a10 p) (fun p => a11 p)) (fun M8 v7 w38 => ?_)
            have hM8 : IV A B M8 := w38.1
            have w39 : (0 : Int32) ≤ v7 ∧ v7 ≤ (115 : Int32) := w38.2
            refine ok_gd ?_ (fun g40 => ?_)
            · exact okc_of (by grind) (by grind)
            have p41 : (0 : Int32) ≤ v7 ∧ v7 ≤ (115 : Int32) := by
              exact ⟨by grind, by grind⟩
            exact ok_some ⟨hM8, p41⟩
          · have p42 : (0 : Int32) ≤ (0 : Int32) ∧ (0 : Int32) ≤ (115 : Int32) := by
              exact ⟨by grind, by grind⟩
            exact ok_some ⟨hM5, p42⟩
        · unfold f_X7_give_J50
          refine ok_lq (fun M5 e43 => ?_)
          have hM5 : IV A B M5 := by rw [e43]; exact hM.u1 rfl (a4) ⟨by decide, by decide⟩
          refine ok_ite (fun q44 => ?_) (fun q44 => ?_)
          · have p45 : (0 : Int32) ≤ p0 ∧ p0 ≤ (9 : Int32) := by
              exact ⟨by grind, by grind⟩
            have p46 : (0 : Int32) ≤ p1 ∧ p1 ≤ (39 : Int32) := by
              have c47 : (0 : Int32) ≤ (M.1 42 0 (p1).toNatClampNeg) ∧ (M.1 42 0 (p1).toNatClampNeg) ≤ (65535 : Int32) := hM.at1 42 0 ((p1).toNatClampNeg)
              exact ⟨by grind, by grind⟩
            refine ok_b1 (s_X7_closes M5 hM5 p0 p45 p1 p46 (a1) (a2) (a3) (fun p => a5 p) (fun p => a6 p) (fun p => a7 p) (fun p => a8 p) (fun p => a9 p) (fun p => a10 p) (fun p => a11 p)) (fun M8 v7 w48 => ?_)
            have hM8 : IV A B M8 := w48.1
            have w49 : (0 : Int32) ≤ v7 ∧ v7 ≤ (115 : Int32) := w48.2
            refine ok_gd ?_ (fun g50 => ?_)
            · exact okc_of (by grind) (by grind)
            have p51 : (0 : Int32) ≤ v7 ∧ v7 ≤ (115 : Int32) := by
              exact ⟨by grind, by grind⟩
            exact ok_some ⟨hM8, p51⟩
          · have p52 : (0 : Int32) ≤ (0 : Int32) ∧ (0 : Int32) ≤ (115 : Int32) := by
              exact ⟨by grind, by grind⟩
            exact ok_some ⟨hM5, p52⟩
      · unfold f_X7_give_J50
        refine ok_lq (fun M5 e53 => ?_)
        have hM5 : IV A B M5 := by rw [e53]; exact hM.u1 rfl (a4) ⟨by decide, by decide⟩
        refine ok_ite (fun q54 => ?_) (fun q54 => ?_)
        · have p55 : (0 : Int32) ≤ p0 ∧ p0 ≤ (9 : Int32) := by
            exact ⟨by grind, by grind⟩
          have p56 : (0 : Int32) ≤ p1 ∧ p1 ≤ (39 : Int32) := by
            have c57 : (0 : Int32) ≤ (M.1 42 0 (p1).toNatClampNeg) ∧ (M.1 42 0 (p1).toNatClampNeg) ≤ (65535 : Int32) := hM.at1 42 0 ((p1).toNatClampNeg)
            exact ⟨by grind, by grind⟩
          refine ok_b1 (s_X7_closes M5 hM5 p0 p55 p1 p56 (a1) (a2) (a3) (fun p => a5 p) (fun p => a6 p) (fun p => a7 p) (fun p => a8 p) (fun p => a9 p) (fun p => a10 p) (fun p => a11 p)) (fun M8 v7 w58 => ?_)
          have hM8 : IV A B M8 := w58.1
          have w59 : (0 : Int32) ≤ v7 ∧ v7 ≤ (115 : Int32) := w58.2
          refine ok_gd ?_ (fun g60 => ?_)
          · exact okc_of (by grind) (by grind)
          have p61 : (0 : Int32) ≤ v7 ∧ v7 ≤ (115 : Int32) := by
            exact ⟨by grind, by grind⟩
          exact ok_some ⟨hM8, p61⟩
        · have p62 : (0 : Int32) ≤ (0 : Int32) ∧ (0 : Int32) ≤ (115 : Int32) := by
            exact ⟨by grind, by grind⟩
          exact ok_some ⟨hM5, p62⟩
theorem s_X7_isBody_J111 {A : Nat → Nat → Nat → Prop} {B : SS} {n : Nat} (rc : Int32 → Int32 → SS → (Int32 → SS → Option (SS × Int32)) → Option (SS × Int32)) (hrc : ∀ (v9 : Int32) (v10 : Int32) (M11 : SS) (k6 : (Int32 → SS → Option (SS × Int32))), (FU v9 5 n) → ((0 : Int32) ≤ v9 ∧ v9 ≤ (5 : Int32)) → ((0 : Int32) ≤ v10 ∧ v10 ≤ (1 : Int32)) → (IV A B M11) → (∀ (k_0 : Int32) (k_1 : SS), ((0 : Int32) ≤ k_0 ∧ k_0 ≤ (1 : Int32)) → (IV A B k_1) → ok (k6 k_0 k_1) (fun r => IV A B r.1 ∧ (0 : Int32) ≤ r.2 ∧ r.2 ≤ (1 : Int32))) → ok (rc v9 v10 M11 k6) (fun r => IV A B r.1 ∧ (0 : Int32) ≤ r.2 ∧ r.2 ≤ (1 : Int32))) (k6 : Int32 → SS → Option (SS × Int32)) (hk : ∀ (k_0 : Int32) (k_1 : SS), ((0 : Int32) ≤ k_0 ∧ k_0 ≤ (1 : Int32)) → (IV A B k_1) → ok (k6 k_0 k_1) (fun r => IV A B r.1 ∧ (0 : Int32) ≤ r.2 ∧ r.2 ≤ (1 : Int32))) (M11 : SS) (hM11 : IV A B M11) (v19 : Int32) (iv19 : (0 : Int32) ≤ v19 ∧ v19 ≤ (39 : Int32)) (v9 : Int32) (iv9 : (0 : Int32) ≤ v9 ∧ v9 ≤ (4 : Int32)) (v17 : Int32) (iv17 : (0 : Int32) ≤ v17 ∧ v17 ≤ (199 : Int32)) (v21 : Int32) (iv21 : (0 : Int32) ≤ v21 ∧ v21 ≤ (1 : Int32)) (a1 : A 26 0 38) (a2 : A 26 0 39) (a3 : A 26 0 40) (a4 : ∀ p, A 53 0 p) (a5 : ∀ p, A 54 0 p) (hF : FU v9 5 (n + 1)) : ok (f_X7_isBody_J111 rc k6 M11 v19 v9 v17 v21) (fun r => IV A B r.1 ∧ (0 : Int32) ≤ r.2 ∧ r.2 ≤ (1 : Int32)) := by
  unfold f_X7_isBody_J111
  have p1 : (0 : Int32) ≤ v19 ∧ v19 ≤ (39 : Int32) := by
    exact ⟨by grind, by grind⟩
  refine ok_b1 (s_X7_runs M11 hM11 (40 : Int32) ⟨by decide, by decide⟩ v19 p1 (a1) (a2) (a3) (fun p => a4 p) (fun p => a5 p)) (fun M24 v23 w2 => ?_)
  have hM24 : IV A B M24 := w2.1
  have w3 : (101 : Int32) ≤ v23 ∧ v23 ≤ (122 : Int32) := w2.2
  refine ok_ite (fun q4 => ?_) (fun q4 => ?_)
  · have p5 : FU (v9 + (1 : Int32)) 5 _ := by
      exact FU.step hF (by grind)
    have p6 : (0 : Int32) ≤ (v9 + (1 : Int32)) ∧ (v9 + (1 : Int32)) ≤ (5 : Int32) := by
      exact ⟨by grind, by grind⟩
    exact hrc (v9 + (1 : Int32)) (1 : Int32) M24 k6 p5 p6 ⟨by decide, by decide⟩ hM24 hk
  · refine ok_ite (fun q7 => ?_) (fun q7 => ?_)
    · have p8 : FU (v9 + (1 : Int32)) 5 _ := by
        exact FU.step hF (by grind)
      have p9 : (0 : Int32) ≤ (v9 + (1 : Int32)) ∧ (v9 + (1 : Int32)) ≤ (5 : Int32) := by
        exact ⟨by grind, by grind⟩
      exact hrc (v9 + (1 : Int32)) (0 : Int32) M24 k6 p8 p9 ⟨by decide, by decide⟩ hM24 hk
    · refine ok_gd ?_ (fun g10 => ?_)
      · exact vp_of (by decide) (by grind) (show v17 < (200 : Int32) by grind)
      have g10 := vp_to (by decide) g10
      have g10 : (0 : Int32) ≤ v17 ∧ v17 < (200 : Int32) := g10
      refine ok_ite (fun q11 => ?_) (fun q11 => ?_)
      · have p12 : FU (v9 + (1 : Int32)) 5 _ := by
          exact FU.step hF (by grind)
        have p13 : (0 : Int32) ≤ (v9 + (1 : Int32)) ∧ (v9 + (1 : Int32)) ≤ (5 : Int32) := by
          exact ⟨by grind, by grind⟩
        exact hrc (v9 + (1 : Int32)) (1 : Int32) M24 k6 p12 p13 ⟨by decide, by decide⟩ hM24 hk
      · have p14 : FU (v9 + (1 : Int32)) 5 _ := by
          exact FU.step hF (by grind)
        have p15 : (0 : Int32) ≤ (v9 + (1 : Int32)) ∧ (v9 + (1 : Int32)) ≤ (5 : Int32) := by
          exact ⟨by grind, by grind⟩
        exact hrc (v9 + (1 : Int32)) (0 : Int32) M24 k6 p14 p15 ⟨by decide, by decide⟩ hM24 hk
theorem s_X7_isBody_J110 {A : Nat → Nat → Nat → Prop} {B : SS} {n : Nat} (rc : Int32 → Int32 → SS → (Int32 → SS → Option (SS × Int32)) → Option (SS × Int32)) (hrc : ∀ (v9 : Int32) (v10 : Int32) (M11 : SS) (k6 : (Int32 → SS → Option (SS × Int32))), (FU v9 5 n) → ((0 : Int32) ≤ v9 ∧ v9 ≤ (5 : Int32)) → ((0 : Int32) ≤ v10 ∧ v10 ≤ (1 : Int32)) → (IV A B M11) → (∀ (k_0 : Int32) (k_1 : SS), ((0 : Int32) ≤ k_0 ∧ k_0 ≤ (1 : Int32)) → (IV A B k_1) → ok (k6 k_0 k_1) (fun r => IV A B r.1 ∧ (0 : Int32) ≤ r.2 ∧ r.2 ≤ (1 : Int32))) → ok (rc v9 v10 M11 k6) (fun r => IV A B r.1 ∧ (0 : Int32) ≤ r.2 ∧ r.2 ≤ (1 : Int32))) (k6 : Int32 → SS → Option (SS × Int32)) (hk : ∀ (k_0 : Int32) (k_1 : SS), ((0 : Int32) ≤ k_0 ∧ k_0 ≤ (1 : Int32)) → (IV A B k_1) → ok (k6 k_0 k_1) (fun r => IV A B r.1 ∧ (0 : Int32) ≤ r.2 ∧ r.2 ≤ (1 : Int32))) (M11 : SS) (hM11 : IV A B M11) (v19 : Int32) (iv19 : (0 : Int32) ≤ v19 ∧ v19 ≤ (39 : Int32)) (v9 : Int32) (iv9 : (0 : Int32) ≤ v9 ∧ v9 ≤ (4 : Int32)) (v17 : Int32) (iv17 : (0 : Int32) ≤ v17 ∧ v17 ≤ (199 : Int32)) (a1 : A 26 0 38) (a2 : A 26 0 39) (a3 : A 26 0 40) (a4 : ∀ p, A 53 0 p) (a5 : ∀ p, A 54 0 p) (hF : FU v9 5 (n + 1)) : ok (f_X7_isBody_J110 rc k6 M11 v19 v9 v17) (fun r => IV A B r.1 ∧ (0 : Int32) ≤ r.2 ∧ r.2 ≤ (1 : Int32)) := by
  unfold f_X7_isBody_J110
  have p1 : (0 : Int32) ≤ v19 ∧ v19 ≤ (39 : Int32) := by
    exact ⟨by grind, by grind⟩
  have p2 : (0 : Int32) ≤ v9 ∧ v9 ≤ (4 : Int32) := by
    exact ⟨by grind, by grind⟩
  have p3 : (0 : Int32) ≤ v17 ∧ v17 ≤ (199 : Int32) := by
    exact ⟨by grind, by grind⟩
  exact s_X7_isBody_J111 (n := _) rc hrc k6 hk M11 hM11 v19 p1 v9 p2 v17 p3 (0 : Int32) ⟨by decide, by decide⟩ (a1) (a2) (a3) (fun p => a4 p) (fun p => a5 p) hF
theorem s_X7_isBody_L40 {A : Nat → Nat → Nat → Prop} {B : SS} (p0 : Int32) (ip0 : (0 : Int32) ≤ p0 ∧ p0 ≤ (39 : Int32)) (a1 : A 26 0 38) (a2 : A 26 0 39) (a3 : A 26 0 40) (a4 : ∀ p, A 53 0 p) (a5 : ∀ p, A 54 0 p) : ∀ (n : Nat), ∀ (v9 : Int32) (v10 : Int32) (M11 : SS) (k6 : (Int32 → SS → Option (SS × Int32))), (FU v9 5 n) → ((0 : Int32) ≤ v9 ∧ v9 ≤ (5 : Int32)) → ((0 : Int32) ≤ v10 ∧ v10 ≤ (1 : Int32)) → (IV A B M11) → (∀ (k_0 : Int32) (k_1 : SS), ((0 : Int32) ≤ k_0 ∧ k_0 ≤ (1 : Int32)) → (IV A B k_1) → ok (k6 k_0 k_1) (fun r => IV A B r.1 ∧ (0 : Int32) ≤ r.2 ∧ r.2 ≤ (1 : Int32))) → ok (f_X7_isBody_L40 p0 n v9 v10 M11 k6) (fun r => IV A B r.1 ∧ (0 : Int32) ≤ r.2 ∧ r.2 ≤ (1 : Int32)) := by
  intro n
  induction n with
  | zero =>
    intro v9 v10 M11 k6 hF iv9 iv10 hM11 hk
    exact (FU.stop hF (show v9 ≤ (5 : Int32) by grind)).elim
  | succ n ih =>
    intro v9 v10 M11 k6 hF iv9 iv10 hM11 hk
    rw [f_X7_isBody_L40]
    refine ok_gd ?_ (fun g1 => ?_)
    · exact vp_of (by decide) (by grind) (show p0 < (40 : Int32) by grind)
    have g1 := vp_to (by decide) g1
    have g1 : (0 : Int32) ≤ p0 ∧ p0 < (40 : Int32) := g1
    refine ok_gd ?_ (fun g2 => ?_)
    · have c3 : (0 : Int32) ≤ (M11.1 40 0 (p0).toNatClampNeg) ∧ (M11.1 40 0 (p0).toNatClampNeg) ≤ (7 : Int32) := hM11.at1 40 0 ((p0).toNatClampNeg)
      exact vp_of (by decide) (by grind) (show (M11.1 40 0 (p0).toNatClampNeg) < (8 : Int32) by grind)
    have g2 := vp_to (by decide) g2
    have g2 : (0 : Int32) ≤ (M11.1 40 0 (p0).toNatClampNeg) ∧ (M11.1 40 0 (p0).toNatClampNeg) < (8 : Int32) := g2
    refine ok_ite (fun q4 => ?_) (fun q4 => ?_)
    · have p5 : (0 : Int32) ≤ v10 ∧ v10 ≤ (1 : Int32) := by
        exact ⟨by grind, by grind⟩
      exact hk v10 M11 p5 hM11
    · refine ok_ite (fun q6 => ?_) (fun q6 => ?_)
      · have p7 : (0 : Int32) ≤ v10 ∧ v10 ≤ (1 : Int32) := by
          exact ⟨by grind, by grind⟩
        exact hk v10 M11 p7 hM11
      · refine ok_lq (fun v17 e8 => ?_)
        refine ok_gd ?_ (fun g9 => ?_)
        · have c10 : (0 : Int32) ≤ (M11.1 40 0 (p0).toNatClampNeg) ∧ (M11.1 40 0 (p0).toNatClampNeg) ≤ (7 : Int32) := hM11.at1 40 0 ((p0).toNatClampNeg)
          have c11 : (0 : Int32) ≤ (M11.1 33 0 ((M11.1 40 0 (p0).toNatClampNeg)).toNatClampNeg) ∧ (M11.1 33 0 ((M11.1 40 0 (p0).toNatClampNeg)).toNatClampNeg) ≤ (5 : Int32) := hM11.at1 33 0 (((M11.1 40 0 (p0).toNatClampNeg)).toNatClampNeg)
          exact vp_of (by decide) (by grind) (show p0 < (40 : Int32) by grind)
        have g9 := vp_to (by decide) g9
        have g9 : (0 : Int32) ≤ p0 ∧ p0 < (40 : Int32) := g9
        refine ok_lq (fun v19 e12 => ?_)
        refine ok_gd ?_ (fun g13 => ?_)
        · exact vp_of (by decide) (by grind) (show v17 < (200 : Int32) by grind)
        have g13 := vp_to (by decide) g13
        have g13 : (0 : Int32) ≤ v17 ∧ v17 < (200 : Int32) := g13
        refine ok_ite (fun q14 => ?_) (fun q14 => ?_)
        · have p15 : (0 : Int32) ≤ v19 ∧ v19 ≤ (39 : Int32) := by
            have c16 : (0 : Int32) ≤ (M11.1 40 0 (p0).toNatClampNeg) ∧ (M11.1 40 0 (p0).toNatClampNeg) ≤ (7 : Int32) := hM11.at1 40 0 ((p0).toNatClampNeg)
            have c17 : (0 : Int32) ≤ (M11.1 33 0 ((M11.1 40 0 (p0).toNatClampNeg)).toNatClampNeg) ∧ (M11.1 33 0 ((M11.1 40 0 (p0).toNatClampNeg)).toNatClampNeg) ≤ (5 : Int32) := hM11.at1 33 0 (((M11.1 40 0 (p0).toNatClampNeg)).toNatClampNeg)
            exact ⟨by grind, by grind⟩
          have p18 : (0 : Int32) ≤ v9 ∧ v9 ≤ (4 : Int32) := by
            have c19 : (0 : Int32) ≤ (M11.1 33 0 ((M11.1 40 0 (p0).toNatClampNeg)).toNatClampNeg) ∧ (M11.1 33 0 ((M11.1 40 0 (p0).toNatClampNeg)).toNatClampNeg) ≤ (5 : Int32) := hM11.at1 33 0 (((M11.1 40 0 (p0).toNatClampNeg)).toNatClampNeg)
            have c20 : (0 : Int32) ≤ (M11.1 40 0 (p0).toNatClampNeg) ∧ (M11.1 40 0 (p0).toNatClampNeg) ≤ (7 : Int32) := hM11.at1 40 0 ((p0).toNatClampNeg)
            exact ⟨by grind, by grind⟩
          have p21 : (0 : Int32) ≤ v17 ∧ v17 ≤ (199 : Int32) := by
            exact ⟨by grind, by grind⟩
          exact s_X7_isBody_J110 (n := _) (f_X7_isBody_L40 p0 n) ih k6 hk M11 hM11 v19 p15 v9 p18 v17 p21 (a1) (a2) (a3) (fun p => a4 p) (fun p => a5 p) hF
        · refine ok_gd ?_ (fun g22 => ?_)
          · exact vp_of (by decide) (by grind) (show v17 < (200 : Int32) by grind)
          have g22 := vp_to (by decide) g22
          have g22 : (0 : Int32) ≤ v17 ∧ v17 < (200 : Int32) := g22
          refine ok_gd ?_ (fun g23 => ?_)
          · have c24 : (0 : Int32) ≤ (M11.1 40 0 (p0).toNatClampNeg) ∧ (M11.1 40 0 (p0).toNatClampNeg) ≤ (7 : Int32) := hM11.at1 40 0 ((p0).toNatClampNeg)
            have c25 : (0 : Int32) ≤ (M11.1 33 0 ((M11.1 40 0 (p0).toNatClampNeg)).toNatClampNeg) ∧ (M11.1 33 0 ((M11.1 40 0 (p0).toNatClampNeg)).toNatClampNeg) ≤ (5 : Int32) := hM11.at1 33 0 (((M11.1 40 0 (p0).toNatClampNeg)).toNatClampNeg)
            exact vp_of (by decide) (by grind) (show v19 < (40 : Int32) by grind)
          have g23 := vp_to (by decide) g23
          have g23 : (0 : Int32) ≤ v19 ∧ v19 < (40 : Int32) := g23
          refine ok_ite (fun q26 => ?_) (fun q26 => ?_)
          · have p27 : (0 : Int32) ≤ v19 ∧ v19 ≤ (39 : Int32) := by
              have c28 : (0 : Int32) ≤ (M11.1 40 0 (p0).toNatClampNeg) ∧ (M11.1 40 0 (p0).toNatClampNeg) ≤ (7 : Int32) := hM11.at1 40 0 ((p0).toNatClampNeg)
              have c29 : (0 : Int32) ≤ (M11.1 33 0 ((M11.1 40 0 (p0).toNatClampNeg)).toNatClampNeg) ∧ (M11.1 33 0 ((M11.1 40 0 (p0).toNatClampNeg)).toNatClampNeg) ≤ (5 : Int32) := hM11.at1 33 0 (((M11.1 40 0 (p0).toNatClampNeg)).toNatClampNeg)
              exact ⟨by grind, by grind⟩
            have p30 : (0 : Int32) ≤ v9 ∧ v9 ≤ (4 : Int32) := by
              have c31 : (0 : Int32) ≤ (M11.1 33 0 ((M11.1 40 0 (p0).toNatClampNeg)).toNatClampNeg) ∧ (M11.1 33 0 ((M11.1 40 0 (p0).toNatClampNeg)).toNatClampNeg) ≤ (5 : Int32) := hM11.at1 33 0 (((M11.1 40 0 (p0).toNatClampNeg)).toNatClampNeg)
              have c32 : (0 : Int32) ≤ (M11.1 40 0 (p0).toNatClampNeg) ∧ (M11.1 40 0 (p0).toNatClampNeg) ≤ (7 : Int32) := hM11.at1 40 0 ((p0).toNatClampNeg)
              exact ⟨by grind, by grind⟩
            have p33 : (0 : Int32) ≤ v17 ∧ v17 ≤ (199 : Int32) := by
              have c34 : (0 : Int32) ≤ (M11.1 40 0 (p0).toNatClampNeg) ∧ (M11.1 40 0 (p0).toNatClampNeg) ≤ (7 : Int32) := hM11.at1 40 0 ((p0).toNatClampNeg)
              have c35 : (0 : Int32) ≤ (M11.1 33 0 ((M11.1 40 0 (p0).toNatClampNeg)).toNatClampNeg) ∧ (M11.1 33 0 ((M11.1 40 0 (p0).toNatClampNeg)).toNatClampNeg) ≤ (5 : Int32) := hM11.at1 33 0 (((M11.1 40 0 (p0).toNatClampNeg)).toNatClampNeg)
              exact ⟨by grind, by grind⟩
            exact s_X7_isBody_J111 (n := _) (f_X7_isBody_L40 p0 n) ih k6 hk M11 hM11 v19 p27 v9 p30 v17 p33 (1 : Int32) ⟨by decide, by decide⟩ (a1) (a2) (a3) (fun p => a4 p) (fun p => a5 p) hF
          · have p36 : (0 : Int32) ≤ v19 ∧ v19 ≤ (39 : Int32) := by
              have c37 : (0 : Int32) ≤ (M11.1 40 0 (p0).toNatClampNeg) ∧ (M11.1 40 0 (p0).toNatClampNeg) ≤ (7 : Int32) := hM11.at1 40 0 ((p0).toNatClampNeg)
              have c38 : (0 : Int32) ≤ (M11.1 33 0 ((M11.1 40 0 (p0).toNatClampNeg)).toNatClampNeg) ∧ (M11.1 33 0 ((M11.1 40 0 (p0).toNatClampNeg)).toNatClampNeg) ≤ (5 : Int32) := hM11.at1 33 0 (((M11.1 40 0 (p0).toNatClampNeg)).toNatClampNeg)
              exact ⟨by grind, by grind⟩
            have p39 : (0 : Int32) ≤ v9 ∧ v9 ≤ (4 : Int32) := by
              have c40 : (0 : Int32) ≤ (M11.1 33 0 ((M11.1 40 0 (p0).toNatClampNeg)).toNatClampNeg) ∧ (M11.1 33 0 ((M11.1 40 0 (p0).toNatClampNeg)).toNatClampNeg) ≤ (5 : Int32) := hM11.at1 33 0 (((M11.1 40 0 (p0).toNatClampNeg)).toNatClampNeg)
              have c41 : (0 : Int32) ≤ (M11.1 40 0 (p0).toNatClampNeg) ∧ (M11.1 40 0 (p0).toNatClampNeg) ≤ (7 : Int32) := hM11.at1 40 0 ((p0).toNatClampNeg)
              exact ⟨by grind, by grind⟩
            have p42 : (0 : Int32) ≤ v17 ∧ v17 ≤ (199 : Int32) := by
              have c43 : (0 : Int32) ≤ (M11.1 40 0 (p0).toNatClampNeg) ∧ (M11.1 40 0 (p0).toNatClampNeg) ≤ (7 : Int32) := hM11.at1 40 0 ((p0).toNatClampNeg)
              have c44 : (0 : Int32) ≤ (M11.1 33 0 ((M11.1 40 0 (p0).toNatClampNeg)).toNatClampNeg) ∧ (M11.1 33 0 ((M11.1 40 0 (p0).toNatClampNeg)).toNatClampNeg) ≤ (5 : Int32) := hM11.at1 33 0 (((M11.1 40 0 (p0).toNatClampNeg)).toNatClampNeg)
              exact ⟨by grind, by grind⟩
            exact s_X7_isBody_J110 (n := _) (f_X7_isBody_L40 p0 n) ih k6 hk M11 hM11 v19 p36 v9 p39 v17 p42 (a1) (a2) (a3) (fun p => a4 p) (fun p => a5 p) hF
theorem s_X7_isBody {A : Nat → Nat → Nat → Prop} {B : SS} (M : SS) (hM : IV A B M) (p0 : Int32) (ip0 : (0 : Int32) ≤ p0 ∧ p0 ≤ (39 : Int32)) (a1 : A 26 0 38) (a2 : A 26 0 39) (a3 : A 26 0 40) (a4 : ∀ p, A 53 0 p) (a5 : ∀ p, A 54 0 p) : ok (f_X7_isBody M p0) (fun r => IV A B r.1 ∧ (0 : Int32) ≤ r.2 ∧ r.2 ≤ (1 : Int32)) := by
  unfold f_X7_isBody
  refine ok_b0 (s_X7_sumOf M hM (40 : Int32) ⟨by decide, by decide⟩) (fun v1 w1 => ?_)
  refine ok_gd ?_ (fun g2 => ?_)
  · exact vp_of (by decide) (by grind) (show p0 < (40 : Int32) by grind)
  have g2 := vp_to (by decide) g2
  have g2 : (0 : Int32) ≤ p0 ∧ p0 < (40 : Int32) := g2
  refine ok_ite (fun q3 => ?_) (fun q3 => ?_)
  · refine ok_gd ?_ (fun g4 => ?_)
    · exact vp_of (by decide) (by grind) (show p0 < (41 : Int32) by grind)
    have g4 := vp_to (by decide) g4
    have g4 : (0 : Int32) ≤ p0 ∧ p0 < (41 : Int32) := g4
    refine ok_ite (fun q5 => ?_) (fun q5 => ?_)
    · unfold f_X7_isBody_J37
      have p6 : (0 : Int32) ≤ p0 ∧ p0 ≤ (39 : Int32) := by
        have c7 : (0 : Int32) ≤ (M.1 29 0 ((40 : Int32)).toNatClampNeg) ∧ (M.1 29 0 ((40 : Int32)).toNatClampNeg) ≤ (24 : Int32) := hM.at1 29 0 (((40 : Int32)).toNatClampNeg)
        have c8 : (0 : Int32) ≤ (M.1 29 0 (p0).toNatClampNeg) ∧ (M.1 29 0 (p0).toNatClampNeg) ≤ (24 : Int32) := hM.at1 29 0 ((p0).toNatClampNeg)
        exact ⟨by grind, by grind⟩
      have p9 : FU (0 : Int32) 5 1000 := by
        exact FU.start (by grind) (by decide)
      refine s_X7_isBody_L40 p0 p6 (a1) (a2) (a3) (fun p => a4 p) (fun p => a5 p) 1000 (0 : Int32) (1 : Int32) M _ p9 ⟨by decide, by decide⟩ ⟨by decide, by decide⟩ hM (fun v7 M8 wv7 hM8 => ?_)
      have wv7 : (0 : Int32) ≤ v7 ∧ v7 ≤ (1 : Int32) := wv7
      refine ok_gd ?_ (fun g10 => ?_)
      · exact okz_of (by grind) (by grind)
      have p11 : (0 : Int32) ≤ v7 ∧ v7 ≤ (1 : Int32) := by
        exact ⟨by grind, by grind⟩
      exact ok_some ⟨hM8, p11⟩
    · unfold f_X7_isBody_J36
      unfold f_X7_isBody_J37
      have p12 : (0 : Int32) ≤ p0 ∧ p0 ≤ (39 : Int32) := by
        have c13 : (0 : Int32) ≤ (M.1 29 0 ((40 : Int32)).toNatClampNeg) ∧ (M.1 29 0 ((40 : Int32)).toNatClampNeg) ≤ (24 : Int32) := hM.at1 29 0 (((40 : Int32)).toNatClampNeg)
        have c14 : (0 : Int32) ≤ (M.1 29 0 (p0).toNatClampNeg) ∧ (M.1 29 0 (p0).toNatClampNeg) ≤ (24 : Int32) := hM.at1 29 0 ((p0).toNatClampNeg)
        exact ⟨by grind, by grind⟩
      have p15 : FU (0 : Int32) 5 1000 := by
        exact FU.start (by grind) (by decide)
      refine s_X7_isBody_L40 p0 p12 (a1) (a2) (a3) (fun p => a4 p) (fun p => a5 p) 1000 (0 : Int32) (0 : Int32) M _ p15 ⟨by decide, by decide⟩ ⟨by decide, by decide⟩ hM (fun v7 M8 wv7 hM8 => ?_)
      have wv7 : (0 : Int32) ≤ v7 ∧ v7 ≤ (1 : Int32) := wv7
      refine ok_gd ?_ (fun g16 => ?_)
      · exact okz_of (by grind) (by grind)
      have p17 : (0 : Int32) ≤ v7 ∧ v7 ≤ (1 : Int32) := by
        exact ⟨by grind, by grind⟩
      exact ok_some ⟨hM8, p17⟩
  · unfold f_X7_isBody_J36
    unfold f_X7_isBody_J37
    have p18 : (0 : Int32) ≤ p0 ∧ p0 ≤ (39 : Int32) := by
      exact ⟨by grind, by grind⟩
    have p19 : FU (0 : Int32) 5 1000 := by
      exact FU.start (by grind) (by decide)
    refine s_X7_isBody_L40 p0 p18 (a1) (a2) (a3) (fun p => a4 p) (fun p => a5 p) 1000 (0 : Int32) (0 : Int32) M _ p19 ⟨by decide, by decide⟩ ⟨by decide, by decide⟩ hM (fun v7 M8 wv7 hM8 => ?_)
    have wv7 : (0 : Int32) ≤ v7 ∧ v7 ≤ (1 : Int32) := wv7
    refine ok_gd ?_ (fun g20 => ?_)
    · exact okz_of (by grind) (by grind)
    have p21 : (0 : Int32) ≤ v7 ∧ v7 ≤ (1 : Int32) := by
      exact ⟨by grind, by grind⟩
    exact ok_some ⟨hM8, p21⟩
theorem s_X7_answer {A : Nat → Nat → Nat → Prop} {B : SS} (M : SS) (hM : IV A B M) (p0 : Int32) (p1 : Int32) (a1 : A 26 0 38) (a2 : A 26 0 39) (a3 : A 26 0 40) (a4 : A 26 0 9) (a5 : ∀ p, A 27 0 p) (a6 : ∀ p, A 28 0 p) (a7 : A 29 0 (p1).toNatClampNeg) (a8 : ∀ p, A 42 0 p) (a9 : ∀ p, A 43 0 p) (a10 : ∀ p, A 44 0 p) (a11 : ∀ p, A 45 0 p) (a12 : ∀ p, A 51 0 p) (a13 : ∀ p, A 53 0 p) (a14 : ∀ p, A 54 0 p) : ok (f_X7_answer M p0 p1) (fun r => IV A B r.1 ∧ (0 : Int32) ≤ r.2 ∧ r.2 ≤ (115 : Int32)) := by
  unfold f_X7_answer
  refine ok_b0 (s_X7_isMember M hM p0) (fun v1 w1 => ?_)
  have w2 : (0 : Int32) ≤ v1 ∧ v1 ≤ (1 : Int32) ∧ ((v1 = 0 ∧ (p0 < 0 ∨ (M.1 26 0 4) ≤ p0)) ∨ (v1 = 1 ∧ 0 ≤ p0 ∧ p0 < (M.1 26 0 4))) := w1
  refine ok_ite (fun q3 => ?_) (fun q3 => ?_)
  · unfold f_X7_answer_J17
    unfold f_X7_answer_J46
    refine ok_lq (fun M5 e4 => ?_)
    have hM5 : IV A B M5 := by rw [e4]; exact hM.u1 rfl (a4) ⟨by decide, by decide⟩
    refine ok_ite (fun q5 => ?_) (fun q5 => ?_)
    · have p6 : (0 : Int32) ≤ p1 ∧ p1 ≤ (39 : Int32) := by
        exact ⟨by grind, by grind⟩
      refine ok_b1 (s_X7_isBody M5 hM5 p1 p6 (a1) (a2) (a3) (fun p => a13 p) (fun p => a14 p)) (fun M8 v7 w7 => ?_)
      have hM8 : IV A B M8 := w7.1
      have w8 : (0 : Int32) ≤ v7 ∧ v7 ≤ (1 : Int32) := w7.2
      refine ok_ite (fun q9 => ?_) (fun q9 => ?_)
      · have p10 : (0 : Int32) ≤ (45 : Int32) ∧ (45 : Int32) ≤ (115 : Int32) := by
          exact ⟨by grind, by grind⟩
        exact ok_some ⟨hM8, p10⟩
      · have p11 : (0 : Int32) ≤ p1 ∧ p1 ≤ (39 : Int32) := by
          exact ⟨by grind, by grind⟩
        refine ok_b1 (s_X7_copies M8 hM8 (40 : Int32) ⟨by decide, by decide⟩ p1 p11 (fun p => a5 p) (fun p => a6 p) (a7)) (fun M12 v11 w12 => ?_)
        have hM12 : IV A B M12 := w12.1
        have p13 : (0 : Int32) ≤ p0 ∧ p0 ≤ (9 : Int32) := by
          exact ⟨by grind, by grind⟩
        have p14 : (0 : Int32) ≤ p1 ∧ p1 ≤ (39 : Int32) := by
          exact ⟨by grind, by grind⟩
        refine ok_b1 (s_X7_closes M12 hM12 p0 p13 p1 p14 (a1) (a2) (a3) (fun p => a8 p) (fun p => a9 p) (fun p => a10 p) (fun p => a11 p) (fun p => a12 p) (fun p => a13 p) (fun p => a14 p)) (fun M15 v14 w15 => ?_)
        have hM15 : IV A B M15 := w15.1
        have w16 : (0 : Int32) ≤ v14 ∧ v14 ≤ (115 : Int32) := w15.2
        refine ok_gd ?_ (fun g17 => ?_)
        · exact okc_of (by grind) (by grind)
        have p18 : (0 : Int32) ≤ v14 ∧ v14 ≤ (115 : Int32) := by
          exact ⟨by grind, by grind⟩
        exact ok_some ⟨hM15, p18⟩
    · have p19 : (0 : Int32) ≤ (0 : Int32) ∧ (0 : Int32) ≤ (115 : Int32) := by
        exact ⟨by grind, by grind⟩
      exact ok_some ⟨hM5, p19⟩
  · refine ok_b0 (s_X7_isWork M hM p1) (fun v20 w20 => ?_)
    have w21 : (0 : Int32) ≤ v20 ∧ v20 ≤ (1 : Int32) ∧ ((v20 = 0 ∧ (p1 < 0 ∨ (M.1 26 0 5) ≤ p1)) ∨ (v20 = 1 ∧ 0 ≤ p1 ∧ p1 < (M.1 26 0 5))) := w20
    refine ok_ite (fun q22 => ?_) (fun q22 => ?_)
    · unfold f_X7_answer_J17
      unfold f_X7_answer_J46
      refine ok_lq (fun M5 e23 => ?_)
      have hM5 : IV A B M5 := by rw [e23]; exact hM.u1 rfl (a4) ⟨by decide, by decide⟩
      refine ok_ite (fun q24 => ?_) (fun q24 => ?_)
      · have p25 : (0 : Int32) ≤ p1 ∧ p1 ≤ (39 : Int32) := by
          exact ⟨by grind, by grind⟩
        refine ok_b1 (s_X7_isBody M5 hM5 p1 p25 (a1) (a2) (a3) (fun p => a13 p) (fun p => a14 p)) (fun M8 v7 w26 => ?_)
        have hM8 : IV A B M8 := w26.1
        have w27 : (0 : Int32) ≤ v7 ∧ v7 ≤ (1 : Int32) := w26.2
        refine ok_ite (fun q28 => ?_) (fun q28 => ?_)
        · have p29 : (0 : Int32) ≤ (45 : Int32) ∧ (45 : Int32) ≤ (115 : Int32) := by
            exact ⟨by grind, by grind⟩
          exact ok_some ⟨hM8, p29⟩
        · have p30 : (0 : Int32) ≤ p1 ∧ p1 ≤ (39 : Int32) := by
            exact ⟨by grind, by grind⟩
          refine ok_b1 (s_X7_copies M8 hM8 (40 : Int32) ⟨by decide, by decide⟩ p1 p30 (fun p => a5 p) (fun p => a6 p) (a7)) (fun M12 v11 w31 => ?_)
          have hM12 : IV A B M12 := w31.1
          have p32 : (0 : Int32) ≤ p0 ∧ p0 ≤ (9 : Int32) := by
            exact ⟨by grind, by grind⟩
          have p33 : (0 : Int32) ≤ p1 ∧ p1 ≤ (39 : Int32) := by
            exact ⟨by grind, by grind⟩
          refine ok_b1 (s_X7_closes M12 hM12 p0 p32 p1 p33 (a1) (a2) (a3) (fun p => a8 p) (fun p => a9 p) (fun p => a10 p) (fun p => a11 p) (fun p => a12 p) (fun p => a13 p) (fun p => a14 p)) (fun M15 v14 w34 => ?_)
          have hM15 : IV A B M15 := w34.1
          have w35 : (0 : Int32) ≤ v14 ∧ v14 ≤ (115 : Int32) := w34.2
          refine ok_gd ?_ (fun g36 => ?_)
          · exact okc_of (by grind) (by grind)
          have p37 : (0 : Int32) ≤ v14 ∧ v14 ≤ (115 : Int32) := by
            exact ⟨by grind, by grind⟩
          exact ok_some ⟨hM15, p37⟩
      · have p38 : (0 : Int32) ≤ (0 : Int32) ∧ (0 : Int32) ≤ (115 : Int32) := by
          exact ⟨by grind, by grind⟩
        exact ok_some ⟨hM5, p38⟩
    · refine ok_gd ?_ (fun g39 => ?_)
      · exact vp_of (by decide) (by grind) (show p1 < (40 : Int32) by grind)
      have g39 := vp_to (by decide) g39
      have g39 : (0 : Int32) ≤ p1 ∧ p1 < (40 : Int32) := g39
      refine ok_ite (fun q40 => ?_) (fun q40 => ?_)
      · refine ok_b0 (s_X7_isWhole M hM (40 : Int32) ⟨by decide, by decide⟩) (fun v26 w41 => ?_)
        have w42 : (0 : Int32) ≤ v26 ∧ v26 ≤ (1 : Int32) := w41
        refine ok_ite (fun q43 => ?_) (fun q43 => ?_)
        · unfold f_X7_answer_J41
          unfold f_X7_answer_J46
          refine ok_lq (fun M5 e44 => ?_)
          have hM5 : IV A B M5 := by rw [e44]; exact hM.u1 rfl (a4) ⟨by decide, by decide⟩
          refine ok_ite (fun q45 => ?_) (fun q45 => ?_)
          · have p46 : (0 : Int32) ≤ p1 ∧ p1 ≤ (39 : Int32) := by
              have c47 : (0 : Int32) ≤ (M.1 42 0 (p1).toNatClampNeg) ∧ (M.1 42 0 (p1).toNatClampNeg) ≤ (65535 : Int32) := hM.at1 42 0 ((p1).toNatClampNeg)
              exact ⟨by grind, by grind⟩
            refine ok_b1 (s_X7_isBody M5 hM5 p1 p46 (a1) (a2) (a3) (fun p => a13 p) (fun p => a14 p)) (fun M8 v7 w48 => ?_)
            have hM8 : IV A B M8 := w48.1
            have w49 : (0 : Int32) ≤ v7 ∧ v7 ≤ (1 : Int32) := w48.2
            refine ok_ite (fun q50 => ?_) (fun q50 => ?_)
            · have p51 : (0 : Int32) ≤ (45 : Int32) ∧ (45 : Int32) ≤ (115 : Int32) := by
                exact ⟨by grind, by grind⟩
              exact ok_some ⟨hM8, p51⟩
            · have p52 : (0 : Int32) ≤ p1 ∧ p1 ≤ (39 : Int32) := by
                have c53 : (0 : Int32) ≤ (M.1 42 0 (p1).toNatClampNeg) ∧ (M.1 42 0 (p1).toNatClampNeg) ≤ (65535 : Int32) := hM.at1 42 0 ((p1).toNatClampNeg)
                exact ⟨by grind, by grind⟩
              refine ok_b1 (s_X7_copies M8 hM8 (40 : Int32) ⟨by decide, by decide⟩ p1 p52 (fun p => a5 p) (fun p => a6 p) (a7)) (fun M12 v11 w54 => ?_)
              have hM12 : IV A B M12 := w54.1
              have p55 : (0 : Int32) ≤ p0 ∧ p0 ≤ (9 : Int32) := by
                exact ⟨by grind, by grind⟩
              have p56 : (0 : Int32) ≤ p1 ∧ p1 ≤ (39 : Int32) := by
                have c57 : (0 : Int32) ≤ (M.1 42 0 (p1).toNatClampNeg) ∧ (M.1 42 0 (p1).toNatClampNeg) ≤ (65535 : Int32) := hM.at1 42 0 ((p1).toNatClampNeg)
                exact ⟨by grind, by grind⟩
              refine ok_b1 (s_X7_closes M12 hM12 p0 p55 p1 p56 (a1) (a2) (a3) (fun p => a8 p) (fun p => a9 p) (fun p => a10 p) (fun p => a11 p) (fun p => a12 p) (fun p => a13 p) (fun p => a14 p)) (fun M15 v14 w58 => ?_)
              have hM15 : IV A B M15 := w58.1
              have w59 : (0 : Int32) ≤ v14 ∧ v14 ≤ (115 : Int32) := w58.2
              refine ok_gd ?_ (fun g60 => ?_)
              · exact okc_of (by grind) (by grind)
              have p61 : (0 : Int32) ≤ v14 ∧ v14 ≤ (115 : Int32) := by
                exact ⟨by grind, by grind⟩
              exact ok_some ⟨hM15, p61⟩
          · have p62 : (0 : Int32) ≤ (0 : Int32) ∧ (0 : Int32) ≤ (115 : Int32) := by
              exact ⟨by grind, by grind⟩
            exact ok_some ⟨hM5, p62⟩
        · unfold f_X7_answer_J46
          refine ok_lq (fun M5 e63 => ?_)
          have hM5 : IV A B M5 := by rw [e63]; exact hM.u1 rfl (a4) ⟨by decide, by decide⟩
          refine ok_ite (fun q64 => ?_) (fun q64 => ?_)
          · have p65 : (0 : Int32) ≤ p1 ∧ p1 ≤ (39 : Int32) := by
              have c66 : (0 : Int32) ≤ (M.1 42 0 (p1).toNatClampNeg) ∧ (M.1 42 0 (p1).toNatClampNeg) ≤ (65535 : Int32) := hM.at1 42 0 ((p1).toNatClampNeg)
              exact ⟨by grind, by grind⟩
            refine ok_b1 (s_X7_isBody M5 hM5 p1 p65 (a1) (a2) (a3) (fun p => a13 p) (fun p => a14 p)) (fun M8 v7 w67 => ?_)
            have hM8 : IV A B M8 := w67.1
            have w68 : (0 : Int32) ≤ v7 ∧ v7 ≤ (1 : Int32) := w67.2
            refine ok_ite (fun q69 => ?_) (fun q69 => ?_)
            · have p70 : (0 : Int32) ≤ (45 : Int32) ∧ (45 : Int32) ≤ (115 : Int32) := by
                exact ⟨by grind, by grind⟩
              exact ok_some ⟨hM8, p70⟩
            · have p71 : (0 : Int32) ≤ p1 ∧ p1 ≤ (39 : Int32) := by
                have c72 : (0 : Int32) ≤ (M.1 42 0 (p1).toNatClampNeg) ∧ (M.1 42 0 (p1).toNatClampNeg) ≤ (65535 : Int32) := hM.at1 42 0 ((p1).toNatClampNeg)
                exact ⟨by grind, by grind⟩
              refine ok_b1 (s_X7_copies M8 hM8 (40 : Int32) ⟨by decide, by decide⟩ p1 p71 (fun p => a5 p) (fun p => a6 p) (a7)) (fun M12 v11 w73 => ?_)
              have hM12 : IV A B M12 := w73.1
              have p74 : (0 : Int32) ≤ p0 ∧ p0 ≤ (9 : Int32) := by
                exact ⟨by grind, by grind⟩
              have p75 : (0 : Int32) ≤ p1 ∧ p1 ≤ (39 : Int32) := by
                have c76 : (0 : Int32) ≤ (M.1 42 0 (p1).toNatClampNeg) ∧ (M.1 42 0 (p1).toNatClampNeg) ≤ (65535 : Int32) := hM.at1 42 0 ((p1).toNatClampNeg)
                exact ⟨by grind, by grind⟩
              refine ok_b1 (s_X7_closes M12 hM12 p0 p74 p1 p75 (a1) (a2) (a3) (fun p => a8 p) (fun p => a9 p) (fun p => a10 p) (fun p => a11 p) (fun p => a12 p) (fun p => a13 p) (fun p => a14 p)) (fun M15 v14 w77 => ?_)
              have hM15 : IV A B M15 := w77.1
              have w78 : (0 : Int32) ≤ v14 ∧ v14 ≤ (115 : Int32) := w77.2
              refine ok_gd ?_ (fun g79 => ?_)
              · exact okc_of (by grind) (by grind)
              have p80 : (0 : Int32) ≤ v14 ∧ v14 ≤ (115 : Int32) := by
                exact ⟨by grind, by grind⟩
              exact ok_some ⟨hM15, p80⟩
          · have p81 : (0 : Int32) ≤ (0 : Int32) ∧ (0 : Int32) ≤ (115 : Int32) := by
              exact ⟨by grind, by grind⟩
            exact ok_some ⟨hM5, p81⟩
      · unfold f_X7_answer_J41
        unfold f_X7_answer_J46
        refine ok_lq (fun M5 e82 => ?_)
        have hM5 : IV A B M5 := by rw [e82]; exact hM.u1 rfl (a4) ⟨by decide, by decide⟩
        refine ok_ite (fun q83 => ?_) (fun q83 => ?_)
        · have p84 : (0 : Int32) ≤ p1 ∧ p1 ≤ (39 : Int32) := by
            have c85 : (0 : Int32) ≤ (M.1 42 0 (p1).toNatClampNeg) ∧ (M.1 42 0 (p1).toNatClampNeg) ≤ (65535 : Int32) := hM.at1 42 0 ((p1).toNatClampNeg)
            exact ⟨by grind, by grind⟩
          refine ok_b1 (s_X7_isBody M5 hM5 p1 p84 (a1) (a2) (a3) (fun p => a13 p) (fun p => a14 p)) (fun M8 v7 w86 => ?_)
          have hM8 : IV A B M8 := w86.1
          have w87 : (0 : Int32) ≤ v7 ∧ v7 ≤ (1 : Int32) := w86.2
          refine ok_ite (fun q88 => ?_) (fun q88 => ?_)
          · have p89 : (0 : Int32) ≤ (45 : Int32) ∧ (45 : Int32) ≤ (115 : Int32) := by
              exact ⟨by grind, by grind⟩
            exact ok_some ⟨hM8, p89⟩
          · have p90 : (0 : Int32) ≤ p1 ∧ p1 ≤ (39 : Int32) := by
              have c91 : (0 : Int32) ≤ (M.1 42 0 (p1).toNatClampNeg) ∧ (M.1 42 0 (p1).toNatClampNeg) ≤ (65535 : Int32) := hM.at1 42 0 ((p1).toNatClampNeg)
              exact ⟨by grind, by grind⟩
            refine ok_b1 (s_X7_copies M8 hM8 (40 : Int32) ⟨by decide, by decide⟩ p1 p90 (fun p => a5 p) (fun p => a6 p) (a7)) (fun M12 v11 w92 => ?_)
            have hM12 : IV A B M12 := w92.1
            have p93 : (0 : Int32) ≤ p0 ∧ p0 ≤ (9 : Int32) := by
              exact ⟨by grind, by grind⟩
            have p94 : (0 : Int32) ≤ p1 ∧ p1 ≤ (39 : Int32) := by
              have c95 : (0 : Int32) ≤ (M.1 42 0 (p1).toNatClampNeg) ∧ (M.1 42 0 (p1).toNatClampNeg) ≤ (65535 : Int32) := hM.at1 42 0 ((p1).toNatClampNeg)
              exact ⟨by grind, by grind⟩
            refine ok_b1 (s_X7_closes M12 hM12 p0 p93 p1 p94 (a1) (a2) (a3) (fun p => a8 p) (fun p => a9 p) (fun p => a10 p) (fun p => a11 p) (fun p => a12 p) (fun p => a13 p) (fun p => a14 p)) (fun M15 v14 w96 => ?_)
            have hM15 : IV A B M15 := w96.1
            have w97 : (0 : Int32) ≤ v14 ∧ v14 ≤ (115 : Int32) := w96.2
            refine ok_gd ?_ (fun g98 => ?_)
            · exact okc_of (by grind) (by grind)
            have p99 : (0 : Int32) ≤ v14 ∧ v14 ≤ (115 : Int32) := by
              exact ⟨by grind, by grind⟩
            exact ok_some ⟨hM15, p99⟩
        · have p100 : (0 : Int32) ≤ (0 : Int32) ∧ (0 : Int32) ≤ (115 : Int32) := by
            exact ⟨by grind, by grind⟩
          exact ok_some ⟨hM5, p100⟩