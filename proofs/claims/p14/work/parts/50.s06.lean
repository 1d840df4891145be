theorem s_X7_copies {A : Nat → Nat → Nat → Prop} {B : SS} (M : SS) (hM : IV A B M) (p0 : Int32) (ip0 : (40 : Int32) ≤ p0 ∧ p0 ≤ (40 : Int32)) (p1 : Int32) (ip1 : (0 : Int32) ≤ p1 ∧ p1 ≤ (39 : Int32)) (a1 : ∀ p, p < 960 → A 27 0 p) (a2 : ∀ p, p < 960 → A 28 0 p) (a3 : A 29 0 (p1).toNatClampNeg) : ok (f_X7_copies M p0 p1) (fun r => IV A B r.1 ∧ True) := by
  obtain rfl : p0 = 40 := by grind
  obtain ⟨q, hq, rfl⟩ := nI_of (x := p1) (by grind)
  have hq2 : q ≤ 39 := (nI_leI hq (by decide : (39 : Nat) < 2 ^ 31)).mp ip1.2
  unfold f_X7_copies
  refine ok_gd (nI_in (c := 40) (by decide) (by decide)) (fun _ => ok_gd (nI_in (by omega) (by decide)) (fun _ => ok_lq (fun M3 e3 => ?_)))
  rw [nI_clamp hq, show ((40 : Int32)).toNatClampNeg = 40 from rfl] at e3
  have h3 : IV0 A B M3 := by rw [e3]; exact hM.1.w1 (by have := a3; rwa [nI_clamp hq] at this) (hM.at1 29 0 40)
  refine cp_L14 hq2 a1 a2 1000 0 M3 _ (by omega) (by omega) h3 ⟨?_, ?_, fun r b hr hrq hb hs2 => ?_, fun b hb => absurd hb (by omega)⟩ (fun M5 h5 => ok_some ⟨h5, trivial⟩)
  · rw [e3, up_p (by omega), up_k (by decide)]
    exact hM.2.1
  · rw [e3, up_s, up_p (by omega)]
  · rw [e3, up_p hrq] at hs2
    rw [e3, up_k (by decide)]
    exact hM.2.2 r b hr hb hs2
theorem s_X7_bodyCount_L4 {A : Nat → Nat → Nat → Prop} {B : SS} (M : SS) (hM : IV A B M) : ∀ (n : Nat), ∀ (v3 : Int32) (v4 : Int32) (k1 : (Int32 → Option (Int32))), (FU v3 40 n) → ((0 : Int32) ≤ v3 ∧ v3 ≤ (40 : Int32)) → (∀ (k_0 : Int32), ok (k1 k_0) (fun r => True)) → ok (f_X7_bodyCount_L4 M n v3 v4 k1) (fun r => True) := by
  intro n
  induction n with
  | zero =>
    intro v3 v4 k1 hF iv3 hk
    exact (FU.stop hF (show v3 ≤ (40 : Int32) by grind)).elim
  | succ n ih =>
    intro v3 v4 k1 hF iv3 hk
    rw [f_X7_bodyCount_L4]
    refine ok_ite (fun q1 => ?_) (fun q1 => ?_)
    · exact hk v4
    · refine ok_gd ?_ (fun g2 => ?_)
      · have c3 : (0 : Int32) ≤ (M.1 26 0 5) ∧ (M.1 26 0 5) ≤ (40 : Int32) := hM.at1 26 0 5
        exact vp_of (by decide) (by grind) (show v3 < (40 : Int32) by grind)
      have g2 := vp_to (by decide) g2
      have g2 : (0 : Int32) ≤ v3 ∧ v3 < (40 : Int32) := g2
      refine ok_ite (fun q4 => ?_) (fun q4 => ?_)
      · refine ok_lq (fun v8 eq_5 => ?_)
        have pf6 : FU (v3 + (1 : Int32)) 40 n := by
          have c7 : (0 : Int32) ≤ (M.1 26 0 5) ∧ (M.1 26 0 5) ≤ (40 : Int32) := hM.at1 26 0 5
          have c8 : (0 : Int32) ≤ (M.1 43 0 (v3).toNatClampNeg) ∧ (M.1 43 0 (v3).toNatClampNeg) ≤ (1 : Int32) := hM.at1 43 0 ((v3).toNatClampNeg)
          exact FU.step hF (by grind)
        have pf9 : (0 : Int32) ≤ (v3 + (1 : Int32)) ∧ (v3 + (1 : Int32)) ≤ (40 : Int32) := by
          have c10 : (0 : Int32) ≤ (M.1 26 0 5) ∧ (M.1 26 0 5) ≤ (40 : Int32) := hM.at1 26 0 5
          have c11 : (0 : Int32) ≤ (M.1 43 0 (v3).toNatClampNeg) ∧ (M.1 43 0 (v3).toNatClampNeg) ≤ (1 : Int32) := hM.at1 43 0 ((v3).toNatClampNeg)
          exact ⟨by grind, by grind⟩
        exact ih (v3 + (1 : Int32)) v8 k1 pf6 pf9 hk
      · refine ok_lq (fun v9 eq_12 => ?_)
        have pf13 : FU (v3 + (1 : Int32)) 40 n := by
          have c14 : (0 : Int32) ≤ (M.1 26 0 5) ∧ (M.1 26 0 5) ≤ (40 : Int32) := hM.at1 26 0 5
          have c15 : (0 : Int32) ≤ (M.1 43 0 (v3).toNatClampNeg) ∧ (M.1 43 0 (v3).toNatClampNeg) ≤ (1 : Int32) := hM.at1 43 0 ((v3).toNatClampNeg)
          exact FU.step hF (by grind)
        have pf16 : (0 : Int32) ≤ (v3 + (1 : Int32)) ∧ (v3 + (1 : Int32)) ≤ (40 : Int32) := by
          have c17 : (0 : Int32) ≤ (M.1 26 0 5) ∧ (M.1 26 0 5) ≤ (40 : Int32) := hM.at1 26 0 5
          have c18 : (0 : Int32) ≤ (M.1 43 0 (v3).toNatClampNeg) ∧ (M.1 43 0 (v3).toNatClampNeg) ≤ (1 : Int32) := hM.at1 43 0 ((v3).toNatClampNeg)
          exact ⟨by grind, by grind⟩
        exact ih (v3 + (1 : Int32)) v9 k1 pf13 pf16 hk
theorem s_X7_bodyCount {A : Nat → Nat → Nat → Prop} {B : SS} (M : SS) (hM : IV A B M) : ok (f_X7_bodyCount M) (fun r => True) := by
  unfold f_X7_bodyCount
  have pf1 : FU (0 : Int32) 40 1000 := by
    exact FU.start (by grind) (by decide)
  refine s_X7_bodyCount_L4 M hM 1000 (0 : Int32) (0 : Int32) _ pf1 (show (0 : Int32) ≤ (0 : Int32) ∧ (0 : Int32) ≤ (40 : Int32) from ⟨by decide, by decide⟩) (fun v2 => ?_)
  exact ok_some trivial
theorem s_X7_weightOf_L4 {A : Nat → Nat → Nat → Prop} {B : SS} (p0 : Int32) (ip0 : (0 : Int32) ≤ p0 ∧ p0 ≤ (39 : Int32)) (M : SS) (hM : IV A B M) : ∀ (n : Nat), ∀ (v3 : Int32) (v4 : Int32) (k1 : (Int32 → Option (Int32))), (FU v3 10 n) → ((0 : Int32) ≤ v3 ∧ v3 ≤ (10 : Int32)) → ((0 : Int32) ≤ v4) → (v4 ≤ (6 : Int32) * v3) → (∀ (k_0 : Int32), ((0 : Int32) ≤ k_0 ∧ k_0 ≤ (60 : Int32)) → ok (k1 k_0) (fun r => ((0 : Int32) ≤ r ∧ r ≤ (60 : Int32)))) → ok (f_X7_weightOf_L4 p0 M n v3 v4 k1) (fun r => ((0 : Int32) ≤ r ∧ r ≤ (60 : Int32))) := by
  intro n
  induction n with
  | zero =>
    intro v3 v4 k1 hF iv3 x0 x1 hk
    exact (FU.stop hF (show v3 ≤ (10 : Int32) by grind)).elim
  | succ n ih =>
    intro v3 v4 k1 hF iv3 x0 x1 hk
    rw [f_X7_weightOf_L4]
    refine ok_ite (fun q1 => ?_) (fun q1 => ?_)
    · have pf2 : (0 : Int32) ≤ v4 ∧ v4 ≤ (60 : Int32) := by
        grind
      exact hk v4 pf2
    · refine ok_gd ?_ (fun g3 => ?_)
      · exact vp_of (by decide) (by grind) (show (((10 : Int32) * p0) + v3) < (400 : Int32) by grind)
      have g3 := vp_to (by decide) g3
      have g3 : (0 : Int32) ≤ (((10 : Int32) * p0) + v3) ∧ (((10 : Int32) * p0) + v3) < (400 : Int32) := g3
      refine ok_lq (fun v7 eq_4 => ?_)
      have pf5 : FU (v3 + (1 : Int32)) 10 n := by
        exact FU.step hF (by grind)
      have pf6 : (0 : Int32) ≤ (v3 + (1 : Int32)) ∧ (v3 + (1 : Int32)) ≤ (10 : Int32) := by
        exact ⟨by grind, by grind⟩
      have pf7 : (0 : Int32) ≤ v7 := by
        have c8 : (0 : Int32) ≤ (M.1 47 0 ((((10 : Int32) * p0) + v3)).toNatClampNeg) ∧ (M.1 47 0 ((((10 : Int32) * p0) + v3)).toNatClampNeg) ≤ (6 : Int32) := hM.at1 47 0 (((((10 : Int32) * p0) + v3)).toNatClampNeg)
        grind
      have pf9 : v7 ≤ (6 : Int32) * (v3 + (1 : Int32)) := by
        have c10 : (0 : Int32) ≤ (M.1 47 0 ((((10 : Int32) * p0) + v3)).toNatClampNeg) ∧ (M.1 47 0 ((((10 : Int32) * p0) + v3)).toNatClampNeg) ≤ (6 : Int32) := hM.at1 47 0 (((((10 : Int32) * p0) + v3)).toNatClampNeg)
        grind
      exact ih (v3 + (1 : Int32)) v7 k1 pf5 pf6 pf7 pf9 hk
theorem s_X7_weightOf {A : Nat → Nat → Nat → Prop} {B : SS} (M : SS) (hM : IV A B M) (p0 : Int32) (ip0 : (0 : Int32) ≤ p0 ∧ p0 ≤ (39 : Int32)) : ok (f_X7_weightOf M p0) (fun r => ((0 : Int32) ≤ r ∧ r ≤ (60 : Int32))) := by
  unfold f_X7_weightOf
  have pf1 : (0 : Int32) ≤ p0 ∧ p0 ≤ (39 : Int32) := by
    exact ⟨by grind, by grind⟩
  have pf2 : FU (0 : Int32) 10 1000 := by
    exact FU.start (by grind) (by decide)
  have pf3 : (0 : Int32) ≤ (0 : Int32) := by
    grind
  have pf4 : (0 : Int32) ≤ (6 : Int32) * (0 : Int32) := by
    grind
  refine s_X7_weightOf_L4 p0 pf1 M hM 1000 (0 : Int32) (0 : Int32) _ pf2 (show (0 : Int32) ≤ (0 : Int32) ∧ (0 : Int32) ≤ (10 : Int32) from ⟨by decide, by decide⟩) pf3 pf4 (fun v2 ek => ?_)
  have eq_5 : (0 : Int32) ≤ v2 ∧ v2 ≤ (60 : Int32) := ek
  have pf6 : ((0 : Int32) ≤ v2 ∧ v2 ≤ (60 : Int32)) := by
    grind
  exact ok_some pf6
theorem s_X7_isWorse {A : Nat → Nat → Nat → Prop} {B : SS} (M : SS) (hM : IV A B M) (p0 : Int32) (ip0 : (0 : Int32) ≤ p0 ∧ p0 ≤ (39 : Int32)) (p1 : Int32) (ip1 : (0 : Int32) ≤ p1 ∧ p1 ≤ (39 : Int32)) : ok (f_X7_isWorse M p0 p1) (fun r => (0 : Int32) ≤ r ∧ r ≤ (1 : Int32)) := by
  unfold f_X7_isWorse
  refine ok_gd ?_ (fun g1 => ?_)
  · exact vp_of (by decide) (by grind) (show p0 < (40 : Int32) by grind)
  have g1 := vp_to (by decide) g1
  have g1 : (0 : Int32) ≤ p0 ∧ p0 < (40 : Int32) := g1
  refine ok_ite (fun q2 => ?_) (fun q2 => ?_)
  · unfold f_X7_isWorse_J16
    refine ok_gd ?_ (fun g3 => ?_)
    · exact vp_of (by decide) (by grind) (show p1 < (40 : Int32) by grind)
    have g3 := vp_to (by decide) g3
    have g3 : (0 : Int32) ≤ p1 ∧ p1 < (40 : Int32) := g3
    refine ok_ite (fun q4 => ?_) (fun q4 => ?_)
    · unfold f_X7_isWorse_J32
      refine ok_ite (fun q5 => ?_) (fun q5 => ?_)
      · have pf6 : (0 : Int32) ≤ p0 ∧ p0 ≤ (39 : Int32) := by
          have c7 : (0 : Int32) ≤ (M.1 42 0 (p0).toNatClampNeg) ∧ (M.1 42 0 (p0).toNatClampNeg) ≤ (65535 : Int32) := hM.at1 42 0 ((p0).toNatClampNeg)
          exact ⟨by grind, by grind⟩
        refine ok_b0 (s_X7_weightOf M hM p0 pf6) (fun v8 w8 => ?_)
        have w9 : ((0 : Int32) ≤ v8 ∧ v8 ≤ (60 : Int32)) := w8
        have pf10 : (0 : Int32) ≤ p1 ∧ p1 ≤ (39 : Int32) := by
          have c11 : (0 : Int32) ≤ (M.1 42 0 (p1).toNatClampNeg) ∧ (M.1 42 0 (p1).toNatClampNeg) ≤ (65535 : Int32) := hM.at1 42 0 ((p1).toNatClampNeg)
          exact ⟨by grind, by grind⟩
        refine ok_b0 (s_X7_weightOf M hM p1 pf10) (fun v10 w12 => ?_)
        have w13 : ((0 : Int32) ≤ v10 ∧ v10 ≤ (60 : Int32)) := w12
        refine ok_ite (fun q14 => ?_) (fun q14 => ?_)
        · have pf15 : (0 : Int32) ≤ (0 : Int32) ∧ (0 : Int32) ≤ (1 : Int32) := by
            exact ⟨by grind, by grind⟩
          exact ok_some pf15
        · have pf16 : (0 : Int32) ≤ (1 : Int32) ∧ (1 : Int32) ≤ (1 : Int32) := by
            exact ⟨by grind, by grind⟩
          exact ok_some pf16
      · refine ok_gd ?_ (fun g17 => ?_)
        · have c18 : (0 : Int32) ≤ (M.1 42 0 (p0).toNatClampNeg) ∧ (M.1 42 0 (p0).toNatClampNeg) ≤ (65535 : Int32) := hM.at1 42 0 ((p0).toNatClampNeg)
          exact vp_of (by decide) (by grind) (show p0 < (40 : Int32) by grind)
        have g17 := vp_to (by decide) g17
        have g17 : (0 : Int32) ≤ p0 ∧ p0 < (40 : Int32) := g17
        refine ok_ite (fun q19 => ?_) (fun q19 => ?_)
        · have pf20 : (0 : Int32) ≤ (1 : Int32) ∧ (1 : Int32) ≤ (1 : Int32) := by
            exact ⟨by grind, by grind⟩
          exact ok_some pf20
        · have pf21 : (0 : Int32) ≤ (0 : Int32) ∧ (0 : Int32) ≤ (1 : Int32) := by
            exact ⟨by grind, by grind⟩
          exact ok_some pf21
    · unfold f_X7_isWorse_J32
      refine ok_ite (fun q22 => ?_) (fun q22 => ?_)
      · have pf23 : (0 : Int32) ≤ p0 ∧ p0 ≤ (39 : Int32) := by
          have c24 : (0 : Int32) ≤ (M.1 42 0 (p0).toNatClampNeg) ∧ (M.1 42 0 (p0).toNatClampNeg) ≤ (65535 : Int32) := hM.at1 42 0 ((p0).toNatClampNeg)
          exact ⟨by grind, by grind⟩
        refine ok_b0 (s_X7_weightOf M hM p0 pf23) (fun v8 w25 => ?_)
        have w26 : ((0 : Int32) ≤ v8 ∧ v8 ≤ (60 : Int32)) := w25
        have pf27 : (0 : Int32) ≤ p1 ∧ p1 ≤ (39 : Int32) := by
          have c28 : (0 : Int32) ≤ (M.1 42 0 (p1).toNatClampNeg) ∧ (M.1 42 0 (p1).toNatClampNeg) ≤ (65535 : Int32) := hM.at1 42 0 ((p1).toNatClampNeg)
          exact ⟨by grind, by grind⟩
        refine ok_b0 (s_X7_weightOf M hM p1 pf27) (fun v10 w29 => ?_)
        have w30 : ((0 : Int32) ≤ v10 ∧ v10 ≤ (60 : Int32)) := w29
        refine ok_ite (fun q31 => ?_) (fun q31 => ?_)
        · have pf32 : (0 : Int32) ≤ (0 : Int32) ∧ (0 : Int32) ≤ (1 : Int32) := by
            exact ⟨by grind, by grind⟩
          exact ok_some pf32
        · have pf33 : (0 : Int32) ≤ (1 : Int32) ∧ (1 : Int32) ≤ (1 : Int32) := by
            exact ⟨by grind, by grind⟩
          exact ok_some pf33
      · refine ok_gd ?_ (fun g34 => ?_)
        · have c35 : (0 : Int32) ≤ (M.1 42 0 (p0).toNatClampNeg) ∧ (M.1 42 0 (p0).toNatClampNeg) ≤ (65535 : Int32) := hM.at1 42 0 ((p0).toNatClampNeg)
          exact vp_of (by decide) (by grind) (show p0 < (40 : Int32) by grind)
        have g34 := vp_to (by decide) g34
        have g34 : (0 : Int32) ≤ p0 ∧ p0 < (40 : Int32) := g34
        refine ok_ite (fun q36 => ?_) (fun q36 => ?_)
        · have pf37 : (0 : Int32) ≤ (1 : Int32) ∧ (1 : Int32) ≤ (1 : Int32) := by
            exact ⟨by grind, by grind⟩
          exact ok_some pf37
        · have pf38 : (0 : Int32) ≤ (0 : Int32) ∧ (0 : Int32) ≤ (1 : Int32) := by
            exact ⟨by grind, by grind⟩
          exact ok_some pf38
  · unfold f_X7_isWorse_J16
    refine ok_gd ?_ (fun g39 => ?_)
    · exact vp_of (by decide) (by grind) (show p1 < (40 : Int32) by grind)
    have g39 := vp_to (by decide) g39
    have g39 : (0 : Int32) ≤ p1 ∧ p1 < (40 : Int32) := g39
    refine ok_ite (fun q40 => ?_) (fun q40 => ?_)
    · unfold f_X7_isWorse_J32
      refine ok_ite (fun q41 => ?_) (fun q41 => ?_)
      · have pf42 : (0 : Int32) ≤ p0 ∧ p0 ≤ (39 : Int32) := by
          have c43 : (0 : Int32) ≤ (M.1 42 0 (p0).toNatClampNeg) ∧ (M.1 42 0 (p0).toNatClampNeg) ≤ (65535 : Int32) := hM.at1 42 0 ((p0).toNatClampNeg)
          exact ⟨by grind, by grind⟩
        refine ok_b0 (s_X7_weightOf M hM p0 pf42) (fun v8 w44 => ?_)
        have w45 : ((0 : Int32) ≤ v8 ∧ v8 ≤ (60 : Int32)) := w44
        have pf46 : (0 : Int32) ≤ p1 ∧ p1 ≤ (39 : Int32) := by
          have c47 : (0 : Int32) ≤ (M.1 42 0 (p1).toNatClampNeg) ∧ (M.1 42 0 (p1).toNatClampNeg) ≤ (65535 : Int32) := hM.at1 42 0 ((p1).toNatClampNeg)
          exact ⟨by grind, by grind⟩
        refine ok_b0 (s_X7_weightOf M hM p1 pf46) (fun v10 w48 => ?_)
        have w49 : ((0 : Int32) ≤ v10 ∧ v10 ≤ (60 : Int32)) := w48
        refine ok_ite (fun q50 => ?_) (fun q50 => ?_)
        · have pf51 : (0 : Int32) ≤ (0 : Int32) ∧ (0 : Int32) ≤ (1 : Int32) := by
            exact ⟨by grind, by grind⟩
          exact ok_some pf51
        · have pf52 : (0 : Int32) ≤ (1 : Int32) ∧ (1 : Int32) ≤ (1 : Int32) := by
            exact ⟨by grind, by grind⟩
          exact ok_some pf52
      · refine ok_gd ?_ (fun g53 => ?_)
        · have c54 : (0 : Int32) ≤ (M.1 42 0 (p0).toNatClampNeg) ∧ (M.1 42 0 (p0).toNatClampNeg) ≤ (65535 : Int32) := hM.at1 42 0 ((p0).toNatClampNeg)
          exact vp_of (by decide) (by grind) (show p0 < (40 : Int32) by grind)
        have g53 := vp_to (by decide) g53
        have g53 : (0 : Int32) ≤ p0 ∧ p0 < (40 : Int32) := g53
        refine ok_ite (fun q55 => ?_) (fun q55 => ?_)
        · have pf56 : (0 : Int32) ≤ (1 : Int32) ∧ (1 : Int32) ≤ (1 : Int32) := by
            exact ⟨by grind, by grind⟩
          exact ok_some pf56
        · have pf57 : (0 : Int32) ≤ (0 : Int32) ∧ (0 : Int32) ≤ (1 : Int32) := by
            exact ⟨by grind, by grind⟩
          exact ok_some pf57
    · unfold f_X7_isWorse_J32
      refine ok_ite (fun q58 => ?_) (fun q58 => ?_)
      · have pf59 : (0 : Int32) ≤ p0 ∧ p0 ≤ (39 : Int32) := by
          have c60 : (0 : Int32) ≤ (M.1 42 0 (p0).toNatClampNeg) ∧ (M.1 42 0 (p0).toNatClampNeg) ≤ (65535 : Int32) := hM.at1 42 0 ((p0).toNatClampNeg)
          exact ⟨by grind, by grind⟩
        refine ok_b0 (s_X7_weightOf M hM p0 pf59) (fun v8 w61 => ?_)
        have w62 : ((0 : Int32) ≤ v8 ∧ v8 ≤ (60 : Int32)) := w61
        have pf63 : (0 : Int32) ≤ p1 ∧ p1 ≤ (39 : Int32) := by
          have c64 : (0 : Int32) ≤ (M.1 42 0 (p1).toNatClampNeg) ∧ (M.1 42 0 (p1).toNatClampNeg) ≤ (65535 : Int32) := hM.at1 42 0 ((p1).toNatClampNeg)
          exact ⟨by grind, by grind⟩
        refine ok_b0 (s_X7_weightOf M hM p1 pf63) (fun v10 w65 => ?_)
        have w66 : ((0 : Int32) ≤ v10 ∧ v10 ≤ (60 : Int32)) := w65
        refine ok_ite (fun q67 => ?_) (fun q67 => ?_)
        · have pf68 : (0 : Int32) ≤ (0 : Int32) ∧ (0 : Int32) ≤ (1 : Int32) := by
            exact ⟨by grind, by grind⟩
          exact ok_some pf68
        · have pf69 : (0 : Int32) ≤ (1 : Int32) ∧ (1 : Int32) ≤ (1 : Int32) := by
            exact ⟨by grind, by grind⟩
          exact ok_some pf69
      · refine ok_gd ?_ (fun g70 => ?_)
        · have c71 : (0 : Int32) ≤ (M.1 42 0 (p0).toNatClampNeg) ∧ (M.1 42 0 (p0).toNatClampNeg) ≤ (65535 : Int32) := hM.at1 42 0 ((p0).toNatClampNeg)
          exact vp_of (by decide) (by grind) (show p0 < (40 : Int32) by grind)
        have g70 := vp_to (by decide) g70
        have g70 : (0 : Int32) ≤ p0 ∧ p0 < (40 : Int32) := g70
        refine ok_ite (fun q72 => ?_) (fun q72 => ?_)
        · have pf73 : (0 : Int32) ≤ (1 : Int32) ∧ (1 : Int32) ≤ (1 : Int32) := by
            exact ⟨by grind, by grind⟩
          exact ok_some pf73
        · have pf74 : (0 : Int32) ≤ (0 : Int32) ∧ (0 : Int32) ≤ (1 : Int32) := by
            exact ⟨by grind, by grind⟩
          exact ok_some pf74
theorem s_X7_stepsOf {A : Nat → Nat → Nat → Prop} {B : SS} (M : SS) (hM : IV A B M) (p0 : Int32) (ip0 : (0 : Int32) ≤ p0 ∧ p0 ≤ (39 : Int32)) (p1 : Int32) (ip1 : (0 : Int32) ≤ p1 ∧ p1 ≤ (4 : Int32)) (a1 : A 26 0 38) (a2 : A 26 0 39) (a3 : A 26 0 40) (a4 : ∀ p, A 53 0 p) (a5 : ∀ p, A 54 0 p) : ok (f_X7_stepsOf M p0 p1) (fun r => IV A B r.1 ∧ True) := by
  unfold f_X7_stepsOf
  refine ok_gd ?_ (fun g1 => ?_)
  · exact vp_of (by decide) (by grind) (show p0 < (40 : Int32) by grind)
  have g1 := vp_to (by decide) g1
  have g1 : (0 : Int32) ≤ p0 ∧ p0 < (40 : Int32) := g1
  refine ok_ite (fun q2 => ?_) (fun q2 => ?_)
  · refine ok_gd ?_ (fun g3 => ?_)
    · have c4 : (0 : Int32) ≤ (M.1 43 0 (p0).toNatClampNeg) ∧ (M.1 43 0 (p0).toNatClampNeg) ≤ (1 : Int32) := hM.at1 43 0 ((p0).toNatClampNeg)
      exact vp_of (by decide) (by grind) (show (((5 : Int32) * p0) + p1) < (200 : Int32) by grind)
    have g3 := vp_to (by decide) g3
    have g3 : (0 : Int32) ≤ (((5 : Int32) * p0) + p1) ∧ (((5 : Int32) * p0) + p1) < (200 : Int32) := g3
    exact ok_some ⟨hM, trivial⟩
  · refine ok_gd ?_ (fun g5 => ?_)
    · have c6 : (0 : Int32) ≤ (M.1 43 0 (p0).toNatClampNeg) ∧ (M.1 43 0 (p0).toNatClampNeg) ≤ (1 : Int32) := hM.at1 43 0 ((p0).toNatClampNeg)
      exact vp_of (by decide) (by grind) (show p0 < (40 : Int32) by grind)
    have g5 := vp_to (by decide) g5
    have g5 : (0 : Int32) ≤ p0 ∧ p0 < (40 : Int32) := g5
    have pf7 : (0 : Int32) ≤ p0 ∧ p0 ≤ (40 : Int32) := by
      have c8 : (0 : Int32) ≤ (M.1 43 0 (p0).toNatClampNeg) ∧ (M.1 43 0 (p0).toNatClampNeg) ≤ (1 : Int32) := hM.at1 43 0 ((p0).toNatClampNeg)
      exact ⟨by grind, by grind⟩
    have pf9 : (0 : Int32) ≤ (((5 : Int32) * (M.1 40 0 (p0).toNatClampNeg)) + p1) ∧ (((5 : Int32) * (M.1 40 0 (p0).toNatClampNeg)) + p1) ≤ (39 : Int32) := by
      have c10 : (0 : Int32) ≤ (M.1 40 0 (p0).toNatClampNeg) ∧ (M.1 40 0 (p0).toNatClampNeg) ≤ (7 : Int32) := hM.at1 40 0 ((p0).toNatClampNeg)
      have c11 : (0 : Int32) ≤ (M.1 43 0 (p0).toNatClampNeg) ∧ (M.1 43 0 (p0).toNatClampNeg) ≤ (1 : Int32) := hM.at1 43 0 ((p0).toNatClampNeg)
      exact ⟨by grind, by grind⟩
    refine ok_b1 (s_X7_runs M hM p0 pf7 (((5 : Int32) * (M.1 40 0 (p0).toNatClampNeg)) + p1) pf9 (a1) (a2) (a3) (fun p => a4 p) (fun p => a5 p)) (fun M5 v4 w12 => ?_)
    have hM5 : IV A B M5 := w12.1
    have w13 : (101 : Int32) ≤ v4 ∧ v4 ≤ (122 : Int32) := w12.2
    refine ok_ite (fun q14 => ?_) (fun q14 => ?_)
    · exact ok_some ⟨hM5, trivial⟩
    · exact ok_some ⟨hM5, trivial⟩
theorem s_X7_loses_L10 {A : Nat → Nat → Nat → Prop} {B : SS} (p0 : Int32) (ip0 : (0 : Int32) ≤ p0 ∧ p0 ≤ (39 : Int32)) (v2 : Int32) (iv2 : (0 : Int32) ≤ v2 ∧ v2 ≤ (7 : Int32)) (a1 : A 26 0 38) (a2 : A 26 0 39) (a3 : A 26 0 40) (a4 : ∀ p, A 44 0 p) (a5 : ∀ p, A 45 0 p) (a6 : ∀ p, A 53 0 p) (a7 : ∀ p, A 54 0 p) : ∀ (n : Nat), ∀ (v5 : Int32) (M6 : SS) (k3 : (SS → Option (SS × Unit))), (FU v5 5 n) → ((0 : Int32) ≤ v5 ∧ v5 ≤ (5 : Int32)) → (IV A B M6) → (∀ (k_0 : SS), (IV A B k_0) → ok (k3 k_0) (fun r => IV A B r.1 ∧ ((r.1.1 43 0 (p0).toNatClampNeg) = 0))) → ok (f_X7_loses_L10 p0 v2 n v5 M6 k3) (fun r => IV A B r.1 ∧ ((r.1.1 43 0 (p0).toNatClampNeg) = 0)) := by
  intro n
  induction n with
  | zero =>
    intro v5 M6 k3 hF iv5 hM6 hk
    exact (FU.stop hF (show v5 ≤ (5 : Int32) by grind)).elim
  | succ n ih =>
    intro v5 M6 k3 hF iv5 hM6 hk
    rw [f_X7_loses_L10]
    refine ok_ite (fun q1 => ?_) (fun q1 => ?_)
    · exact hk M6 hM6
    · refine ok_lq (fun v12 eq_2 => ?_)
      refine ok_gd ?_ (fun g3 => ?_)
      · exact vp_of (by decide) (by grind) (show v2 < (8 : Int32) by grind)
      have g3 := vp_to (by decide) g3
      have g3 : (0 : Int32) ≤ v2 ∧ v2 < (8 : Int32) := g3
      refine ok_ite (fun q4 => ?_) (fun q4 => ?_)
      · unfold f_X7_loses_J52
        refine ok_gd ?_ (fun g5 => ?_)
        · have c6 : (0 : Int32) ≤ (M6.1 33 0 (v2).toNatClampNeg) ∧ (M6.1 33 0 (v2).toNatClampNeg) ≤ (5 : Int32) := hM6.at1 33 0 ((v2).toNatClampNeg)
          exact vp_of (by decide) (by grind) (show v12 < (200 : Int32) by grind)
        have g5 := vp_to (by decide) g5
        have g5 : (0 : Int32) ≤ v12 ∧ v12 < (200 : Int32) := g5
        refine ok_lq (fun M18 eq_7 => ?_)
        have hM18 : IV A B M18 := by rw [eq_7]; exact hM6.w1f rfl (a4 ((v12).toNatClampNeg)) rfl
        refine ok_gd ?_ (fun g8 => ?_)
        · have c9 : (0 : Int32) ≤ (M6.1 33 0 (v2).toNatClampNeg) ∧ (M6.1 33 0 (v2).toNatClampNeg) ≤ (5 : Int32) := hM6.at1 33 0 ((v2).toNatClampNeg)
          exact vp_of (by decide) (by grind) (show (((5 : Int32) * v2) + v5) < (40 : Int32) by grind)
        have g8 := vp_to (by decide) g8
        have g8 : (0 : Int32) ≤ (((5 : Int32) * v2) + v5) ∧ (((5 : Int32) * v2) + v5) < (40 : Int32) := g8
        refine ok_gd ?_ (fun g10 => ?_)
        · have c11 : (0 : Int32) ≤ (M6.1 33 0 (v2).toNatClampNeg) ∧ (M6.1 33 0 (v2).toNatClampNeg) ≤ (5 : Int32) := hM6.at1 33 0 ((v2).toNatClampNeg)
          exact vp_of (by decide) (by grind) (show v12 < (200 : Int32) by grind)
        have g10 := vp_to (by decide) g10
        have g10 : (0 : Int32) ≤ v12 ∧ v12 < (200 : Int32) := g10
        refine ok_lq (fun M21 eq_12 => ?_)
        have hM21 : IV A B M21 := by rw [eq_12]; exact hM18.w1f rfl (a5 ((v12).toNatClampNeg)) rfl
        have pf13 : FU (v5 + (1 : Int32)) 5 n := by
          have c14 : (0 : Int32) ≤ (M6.1 33 0 (v2).toNatClampNeg) ∧ (M6.1 33 0 (v2).toNatClampNeg) ≤ (5 : Int32) := hM6.at1 33 0 ((v2).toNatClampNeg)
          exact FU.step hF (by grind)
        have pf15 : (0 : Int32) ≤ (v5 + (1 : Int32)) ∧ (v5 + (1 : Int32)) ≤ (5 : Int32) := by
          have c16 : (0 : Int32) ≤ (M6.1 33 0 (v2).toNatClampNeg) ∧ (M6.1 33 0 (v2).toNatClampNeg) ≤ (5 : Int32) := hM6.at1 33 0 ((v2).toNatClampNeg)
          exact ⟨by grind, by grind⟩
        exact ih (v5 + (1 : Int32)) M21 k3 pf13 pf15 hM21 hk
      · have pf17 : (0 : Int32) ≤ p0 ∧ p0 ≤ (39 : Int32) := by
          exact ⟨by grind, by grind⟩
        have pf18 : (0 : Int32) ≤ v5 ∧ v5 ≤ (4 : Int32) := by
          have c19 : (0 : Int32) ≤ (M6.1 33 0 (v2).toNatClampNeg) ∧ (M6.1 33 0 (v2).toNatClampNeg) ≤ (5 : Int32) := hM6.at1 33 0 ((v2).toNatClampNeg)
          exact ⟨by grind, by grind⟩
        refine ok_b1 (s_X7_stepsOf M6 hM6 p0 pf17 v5 pf18 (a1) (a2) (a3) (fun p => a6 p) (fun p => a7 p)) (fun M24 v23 w20 => ?_)
        have hM24 : IV A B M24 := w20.1
        unfold f_X7_loses_J52
        refine ok_gd ?_ (fun g21 => ?_)
        · have c22 : (0 : Int32) ≤ (M6.1 33 0 (v2).toNatClampNeg) ∧ (M6.1 33 0 (v2).toNatClampNeg) ≤ (5 : Int32) := hM6.at1 33 0 ((v2).toNatClampNeg)
          exact vp_of (by decide) (by grind) (show v12 < (200 : Int32) by grind)
        have g21 := vp_to (by decide) g21
        have g21 : (0 : Int32) ≤ v12 ∧ v12 < (200 : Int32) := g21
        refine ok_lq (fun M18 eq_23 => ?_)
        have hM18 : IV A B M18 := by rw [eq_23]; exact hM24.w1f rfl (a4 ((v12).toNatClampNeg)) rfl
        refine ok_gd ?_ (fun g24 => ?_)
        · have c25 : (0 : Int32) ≤ (M6.1 33 0 (v2).toNatClampNeg) ∧ (M6.1 33 0 (v2).toNatClampNeg) ≤ (5 : Int32) := hM6.at1 33 0 ((v2).toNatClampNeg)
          exact vp_of (by decide) (by grind) (show (((5 : Int32) * v2) + v5) < (40 : Int32) by grind)
        have g24 := vp_to (by decide) g24
        have g24 : (0 : Int32) ≤ (((5 : Int32) * v2) + v5) ∧ (((5 : Int32) * v2) + v5) < (40 : Int32) := g24
        refine ok_gd ?_ (fun g26 => ?_)
        · have c27 : (0 : Int32) ≤ (M6.1 33 0 (v2).toNatClampNeg) ∧ (M6.1 33 0 (v2).toNatClampNeg) ≤ (5 : Int32) := hM6.at1 33 0 ((v2).toNatClampNeg)
          exact vp_of (by decide) (by grind) (show v12 < (200 : Int32) by grind)
        have g26 := vp_to (by decide) g26
        have g26 : (0 : Int32) ≤ v12 ∧ v12 < (200 : Int32) := g26
        refine ok_lq (fun M21 eq_28 => ?_)
        have hM21 : IV A B M21 := by rw [eq_28]; exact hM18.w1f rfl (a5 ((v12).toNatClampNeg)) rfl
        have pf29 : FU (v5 + (1 : Int32)) 5 n := by
          have c30 : (0 : Int32) ≤ (M6.1 33 0 (v2).toNatClampNeg) ∧ (M6.1 33 0 (v2).toNatClampNeg) ≤ (5 : Int32) := hM6.at1 33 0 ((v2).toNatClampNeg)
          exact FU.step hF (by grind)
        have pf31 : (0 : Int32) ≤ (v5 + (1 : Int32)) ∧ (v5 + (1 : Int32)) ≤ (5 : Int32) := by
          have c32 : (0 : Int32) ≤ (M6.1 33 0 (v2).toNatClampNeg) ∧ (M6.1 33 0 (v2).toNatClampNeg) ≤ (5 : Int32) := hM6.at1 33 0 ((v2).toNatClampNeg)
          exact ⟨by grind, by grind⟩
        exact ih (v5 + (1 : Int32)) M21 k3 pf29 pf31 hM21 hk
theorem s_X7_loses {A : Nat → Nat → Nat → Prop} {B : SS} (M : SS) (hM : IV A B M) (p0 : Int32) (ip0 : (0 : Int32) ≤ p0 ∧ p0 ≤ (39 : Int32)) (p1 : Int32) (ip1 : (98 : Int32) ≤ p1 ∧ p1 ≤ (112 : Int32)) (a1 : A 26 0 38) (a2 : A 26 0 39) (a3 : A 26 0 40) (a4 : A 42 0 (p0).toNatClampNeg) (a5 : A 43 0 (p0).toNatClampNeg) (a6 : ∀ p, A 44 0 p) (a7 : ∀ p, A 45 0 p) (a8 : ∀ p, A 53 0 p) (a9 : ∀ p, A 54 0 p) : ok (f_X7_loses M p0 p1) (fun r => IV A B r.1 ∧ ((r.1.1 43 0 (p0).toNatClampNeg) = 0)) := by
  unfold f_X7_loses
  refine ok_gd ?_ (fun g1 => ?_)
  · exact vp_of (by decide) (by grind) (show p0 < (40 : Int32) by grind)
  have g1 := vp_to (by decide) g1
  have g1 : (0 : Int32) ≤ p0 ∧ p0 < (40 : Int32) := g1
  refine ok_lq (fun v2 eq_2 => ?_)
  have pf3 : (0 : Int32) ≤ p0 ∧ p0 ≤ (39 : Int32) := by
    exact ⟨by grind, by grind⟩
  have pf4 : (0 : Int32) ≤ v2 ∧ v2 ≤ (7 : Int32) := by
    have c5 : (0 : Int32) ≤ (M.1 40 0 (p0).toNatClampNeg) ∧ (M.1 40 0 (p0).toNatClampNeg) ≤ (7 : Int32) := hM.at1 40 0 ((p0).toNatClampNeg)
    exact ⟨by grind, by grind⟩
  have pf6 : FU (0 : Int32) 5 1000 := by
    exact FU.start (by grind) (by decide)
  refine s_X7_loses_L10 p0 pf3 v2 pf4 (a1) (a2) (a3) (fun p => a6 p) (fun p => a7 p) (fun p => a8 p) (fun p => a9 p) 1000 (0 : Int32) M _ pf6 (show (0 : Int32) ≤ (0 : Int32) ∧ (0 : Int32) ≤ (5 : Int32) from ⟨by decide, by decide⟩) hM (fun M4 hM4 => ?_)
  refine ok_gd ?_ (fun g7 => ?_)
  · exact vp_of (by decide) (by grind) (show p0 < (40 : Int32) by grind)
  have g7 := vp_to (by decide) g7
  have g7 : (0 : Int32) ≤ p0 ∧ p0 < (40 : Int32) := g7
  refine ok_lq (fun M8 eq_8 => ?_)
  have pf9 : (0 : Int32) ≤ (vp_nar .boolean (0 : Int32)) ∧ (vp_nar .boolean (0 : Int32)) ≤ (1 : Int32) := by
    have c10 : (vp_nar .boolean (0 : Int32)) = (0 : Int32) := by decide
    exact ⟨by grind, by grind⟩
  have hM8 : IV A B M8 := by rw [eq_8]; exact hM4.w1 rfl (a5) pf9
  refine ok_gd ?_ (fun g11 => ?_)
  · exact vp_of (by decide) (by grind) (show p0 < (40 : Int32) by grind)
  have g11 := vp_to (by decide) g11
  have g11 : (0 : Int32) ≤ p0 ∧ p0 < (40 : Int32) := g11
  refine ok_lq (fun M10 eq_12 => ?_)
  have pf13 : (0 : Int32) ≤ (vp_nar .char p1) ∧ (vp_nar .char p1) ≤ (65535 : Int32) := by
    have c14 : (0 : Int32) ≤ (vp_nar .char p1) ∧ (vp_nar .char p1) ≤ (65535 : Int32) := nar_c _
    exact ⟨by grind, by grind⟩
  have hM10 : IV A B M10 := by rw [eq_12]; exact hM8.w1 rfl (a4) pf13
  have pf15 : ((M10.1 43 0 (p0).toNatClampNeg) = 0) := by
    have c16 : (0 : Int32) ≤ (vp_nar .char p1) ∧ (vp_nar .char p1) ≤ (65535 : Int32) := nar_c _
    have c17 : (0 : Int32) ≤ (M10.1 43 0 (p0).toNatClampNeg) ∧ (M10.1 43 0 (p0).toNatClampNeg) ≤ (1 : Int32) := hM10.at1 43 0 ((p0).toNatClampNeg)
    have c18 : (M10.1 43 0 (p0).toNatClampNeg) = (M8.1 43 0 (p0).toNatClampNeg) := by rw [eq_12]; exact up_k (by decide)
    have c19 : (0 : Int32) ≤ (M8.1 43 0 (p0).toNatClampNeg) ∧ (M8.1 43 0 (p0).toNatClampNeg) ≤ (1 : Int32) := hM8.at1 43 0 ((p0).toNatClampNeg)
    have c20 : (M8.1 43 0 (p0).toNatClampNeg) = (vp_nar .boolean (0 : Int32)) := by rw [eq_8]; exact up_s
    have c21 : (vp_nar .boolean (0 : Int32)) = (0 : Int32) := by decide
    grind
  exact ok_some ⟨hM10, pf15⟩
theorem s_X7_drops {A : Nat → Nat → Nat → Prop} {B : SS} (M : SS) (hM : IV A B M) (p0 : Int32) (ip0 : (0 : Int32) ≤ p0 ∧ p0 ≤ (39 : Int32)) (a1 : A 26 0 38) (a2 : A 26 0 39) (a3 : A 26 0 40) (a4 : A 42 0 (p0).toNatClampNeg) (a5 : A 43 0 (p0).toNatClampNeg) (a6 : ∀ p, A 44 0 p) (a7 : ∀ p, A 45 0 p) (a8 : ∀ p, A 53 0 p) (a9 : ∀ p, A 54 0 p) : ok (f_X7_drops M p0) (fun r => IV A B r.1 ∧ ((r.1.1 43 0 (p0).toNatClampNeg) = 0)) := by
  unfold f_X7_drops
  refine ok_gd ?_ (fun g1 => ?_)
  · exact vp_of (by decide) (by grind) (show p0 < (40 : Int32) by grind)
  have g1 := vp_to (by decide) g1
  have g1 : (0 : Int32) ≤ p0 ∧ p0 < (40 : Int32) := g1
  refine ok_ite (fun q2 => ?_) (fun q2 => ?_)
  · have pf3 : (0 : Int32) ≤ p0 ∧ p0 ≤ (39 : Int32) := by
      have c4 : (0 : Int32) ≤ (M.1 42 0 (p0).toNatClampNeg) ∧ (M.1 42 0 (p0).toNatClampNeg) ≤ (65535 : Int32) := hM.at1 42 0 ((p0).toNatClampNeg)
      exact ⟨by grind, by grind⟩
    refine ok_b1 (s_X7_loses M hM p0 pf3 (98 : Int32) (show (98 : Int32) ≤ (98 : Int32) ∧ (98 : Int32) ≤ (112 : Int32) from ⟨by decide, by decide⟩) (a1) (a2) (a3) (a4) (a5) (fun p => a6 p) (fun p => a7 p) (fun p => a8 p) (fun p => a9 p)) (fun M7 v6 w5 => ?_)
    have hM7 : IV A B M7 := w5.1
    have w6 : ((M7.1 43 0 (p0).toNatClampNeg) = 0) := w5.2
    have pf7 : ((M7.1 43 0 (p0).toNatClampNeg) = 0) := by
      have c8 : (0 : Int32) ≤ (M7.1 43 0 (p0).toNatClampNeg) ∧ (M7.1 43 0 (p0).toNatClampNeg) ≤ (1 : Int32) := hM7.at1 43 0 ((p0).toNatClampNeg)
      have c9 : (0 : Int32) ≤ (M.1 42 0 (p0).toNatClampNeg) ∧ (M.1 42 0 (p0).toNatClampNeg) ≤ (65535 : Int32) := hM.at1 42 0 ((p0).toNatClampNeg)
      grind
    exact ok_some ⟨hM7, pf7⟩
  · have pf10 : (0 : Int32) ≤ p0 ∧ p0 ≤ (39 : Int32) := by
      have c11 : (0 : Int32) ≤ (M.1 42 0 (p0).toNatClampNeg) ∧ (M.1 42 0 (p0).toNatClampNeg) ≤ (65535 : Int32) := hM.at1 42 0 ((p0).toNatClampNeg)
      exact ⟨by grind, by grind⟩
    refine ok_b1 (s_X7_loses M hM p0 pf10 (112 : Int32) (show (98 : Int32) ≤ (112 : Int32) ∧ (112 : Int32) ≤ (112 : Int32) from ⟨by decide, by decide⟩) (a1) (a2) (a3) (a4) (a5) (fun p => a6 p) (fun p => a7 p) (fun p => a8 p) (fun p => a9 p)) (fun M4 v3 w12 => ?_)
    have hM4 : IV A B M4 := w12.1
    have w13 : ((M4.1 43 0 (p0).toNatClampNeg) = 0) := w12.2
    have pf14 : ((M4.1 43 0 (p0).toNatClampNeg) = 0) := by
      have c15 : (0 : Int32) ≤ (M4.1 43 0 (p0).toNatClampNeg) ∧ (M4.1 43 0 (p0).toNatClampNeg) ≤ (1 : Int32) := hM4.at1 43 0 ((p0).toNatClampNeg)
      have c16 : (0 : Int32) ≤ (M.1 42 0 (p0).toNatClampNeg) ∧ (M.1 42 0 (p0).toNatClampNeg) ≤ (65535 : Int32) := hM.at1 42 0 ((p0).toNatClampNeg)
      grind
    exact ok_some ⟨hM4, pf14⟩

theorem bc_L4 {M : SS} (hw : (0 : Int32) ≤ M.1 26 0 5 ∧ M.1 26 0 5 ≤ (40 : Int32)) : ∀ (n : Nat) (v3 v4 : Int32) (k : Int32 → Option Int32), FU v3 40 n → 0 ≤ v3 → v3 ≤ M.1 26 0 5 → v4 = nI (nb M v3.toNatClampNeg) → f_X7_bodyCount_L4 M n v3 v4 k = k (nI (nb M (M.1 26 0 5).toNatClampNeg)) := by
  intro n
  induction n with
  | zero => intro v3 v4 k hF h0 h1 hv; exact (FU.stop hF (show v3 ≤ (40 : Int32) by grind)).elim
  | succ n ih =>
    intro v3 v4 k hF h0 h1 hv
    rw [f_X7_bodyCount_L4]
    show (if M.1 26 0 5 ≤ v3 then k v4 else _) = _
    by_cases c : M.1 26 0 5 ≤ v3
    · rw [if_pos c, hv, show v3 = M.1 26 0 5 by grind]
    · have e := cl_succ h0 (show v3 < 1000 by grind)
      have hb := nb_le M v3.toNatClampNeg
      have hc := cl_le (n := 40) (show v3 ≤ (40 : Int32) by grind) (by decide)
      rw [if_neg c, gd_t (vp_of (by decide) h0 (show v3 < (40 : Int32) by grind))]
      by_cases z : M.1 43 0 v3.toNatClampNeg = 0
      · rw [if_pos z]
        show f_X7_bodyCount_L4 M n (v3 + 1) (v4 + 0) k = _
        refine ih _ _ k (hF.step (by grind)) (by grind) (by grind) ?_
        rw [e]
        show v4 + 0 = nI (nb M v3.toNatClampNeg + (if M.1 43 0 v3.toNatClampNeg = 0 then 0 else 1))
        rw [if_pos z, hv, Int32.add_zero]
        rfl
      · rw [if_neg z]
        show f_X7_bodyCount_L4 M n (v3 + 1) (v4 + 1) k = _
        refine ih _ _ k (hF.step (by grind)) (by grind) (by grind) ?_
        rw [e]
        show v4 + 1 = nI (nb M v3.toNatClampNeg + (if M.1 43 0 v3.toNatClampNeg = 0 then 0 else 1))
        rw [if_neg z, hv, nI_1]
theorem bc_all {M : SS} (hw : (0 : Int32) ≤ M.1 26 0 5 ∧ M.1 26 0 5 ≤ (40 : Int32)) : f_X7_bodyCount M = some (nI (nb M (M.1 26 0 5).toNatClampNeg)) := by
  unfold f_X7_bodyCount
  exact bc_L4 hw 1000 0 0 _ (FU.start (by decide) (by decide)) (by decide) hw.1 (by rw [show ((0 : Int32)).toNatClampNeg = 0 from rfl]; rfl)
def MRI (M : SS) (v w : Int32) : Prop := (w = -1 ∧ nb M v.toNatClampNeg = 0) ∨ (0 ≤ w ∧ w < M.1 26 0 5 ∧ ¬ M.1 43 0 w.toNatClampNeg = 0)
theorem mr_L17 {A : Nat → Nat → Nat → Prop} {B M : SS} {P : SS × Int32 → Prop} (hM : IV A B M) : ∀ (n : Nat) (v w : Int32) (k : Int32 → Option (SS × Int32)), FU v 40 n → 0 ≤ v → v ≤ M.1 26 0 5 → MRI M v w → (∀ u, MRI M (M.1 26 0 5) u → ok (k u) P) → ok (f_X7_makesRoom_L17 M n v w k) P := by
  have hw : (0 : Int32) ≤ M.1 26 0 5 ∧ M.1 26 0 5 ≤ (40 : Int32) := hM.at1 26 0 5
  intro n
  induction n with
  | zero => intro v w k hF h0 h1 hi hk; exact (FU.stop hF (show v ≤ (40 : Int32) by grind)).elim
  | succ n ih =>
    intro v w k hF h0 h1 hi hk
    rw [f_X7_makesRoom_L17]
    refine ok_ite (fun c => ?_) (fun c => ?_)
    · have e : v = M.1 26 0 5 := by grind
      rw [e] at hi
      exact hk w hi
    · have e := cl_succ h0 (show v < 1000 by grind)
      refine ok_gd (vp_of (by decide) h0 (show v < (40 : Int32) by grind)) (fun g => ?_)
      have hself : ¬ M.1 43 0 v.toNatClampNeg = 0 → MRI M (v + 1) v := fun z => Or.inr ⟨h0, by grind, z⟩
      refine ok_ite (fun z => ?_) (fun z => ?_)
      · refine ih _ _ k (hF.step (by grind)) (by grind) (by grind) ?_ hk
        rcases hi with ⟨hi1, hi2⟩ | hi
        · refine Or.inl ⟨hi1, ?_⟩
          rw [e]
          unfold nb
          rw [if_pos z, hi2]
        · exact Or.inr hi
      · refine ok_ite (fun c2 => ih _ _ k (hF.step (by grind)) (by grind) (by grind) (hself z) hk) (fun c2 => ?_)
        rcases hi with hi | hi
        · exact absurd hi.1 c2
        · refine ok_b0 (s_X7_isWorse M hM v ⟨h0, by grind⟩ w ⟨hi.1, by grind⟩) (fun v20 w20 => ?_)
          exact ok_ite (fun c3 => ih _ _ k (hF.step (by grind)) (by grind) (by grind) (Or.inr hi) hk) (fun c3 => ih _ _ k (hF.step (by grind)) (by grind) (by grind) (hself z) hk)
theorem s_X7_makesRoom_L2 {A : Nat → Nat → Nat → Prop} {B : SS} (a1 : A 26 0 38) (a2 : A 26 0 39) (a3 : A 26 0 40) (a4 : ∀ p, A 42 0 p) (a5 : ∀ p, A 43 0 p) (a6 : ∀ p, A 44 0 p) (a7 : ∀ p, A 45 0 p) (a8 : ∀ p, A 53 0 p) (a9 : ∀ p, A 54 0 p) : ∀ (n : Nat), ∀ (v4 : Int32) (M5 : SS) (k1 : (Int32 → SS → Option (SS × Int32))), (((nb M5 (M5.1 26 0 5).toNatClampNeg : Nat) : Int) + 1 ≤ (n : Nat)) → (IV A B M5) → (∀ (k_0 : Int32) (k_1 : SS), (IV A B k_1) → ok (k1 k_0 k_1) (fun r => IV A B r.1 ∧ True)) → ok (f_X7_makesRoom_L2 n v4 M5 k1) (fun r => IV A B r.1 ∧ True) := by
  intro n
  induction n with
  | zero => intro v4 M5 k1 hF; omega
  | succ n ih =>
    intro v4 M5 k1 hF hM5 hk
    rw [f_X7_makesRoom_L2]
    have hw : (0 : Int32) ≤ M5.1 26 0 5 ∧ M5.1 26 0 5 ≤ (40 : Int32) := hM5.at1 26 0 5
    have hr : (0 : Int32) ≤ M5.1 26 0 6 ∧ M5.1 26 0 6 ≤ (40 : Int32) := hM5.at1 26 0 6
    show ok (b0 (f_X7_bodyCount M5) _) _
    rw [bc_all hw]
    refine ok_b0 ⟨_, rfl, rfl⟩ (fun v6 w6 => ?_)
    refine ok_ite (fun q => hk v4 M5 hM5) (fun q => ?_)
    have hpos : nb M5 (M5.1 26 0 5).toNatClampNeg ≠ 0 := by
      intro z
      rw [z] at w6
      apply q
      rw [← w6]
      exact hr.1
    refine mr_L17 hM5 1000 0 (-1) _ (FU.start (by decide) (by decide)) (by decide) hw.1 (Or.inl ⟨rfl, rfl⟩) (fun v10 hv => ?_)
    rcases hv with ⟨-, hz⟩ | ⟨h0, hlt, hb⟩
    · exact absurd hz hpos
    · have d1 := s_X7_drops M5 hM5 v10 ⟨h0, by grind⟩ (a1) (a2) (a3) (a4 ((v10).toNatClampNeg)) (a5 ((v10).toNatClampNeg)) (fun p => a6 p) (fun p => a7 p) (fun p => a8 p) (fun p => a9 p)
      have d2 := s_X7_drops (A := (fun k _ p => (k = 26 ∧ p = 38) ∨ (k = 26 ∧ p = 39) ∨ (k = 26 ∧ p = 40) ∨ (k = 42 ∧ p = (v10).toNatClampNeg) ∨ (k = 43 ∧ p = (v10).toNatClampNeg) ∨ (k = 44) ∨ (k = 45) ∨ (k = 53) ∨ (k = 54))) (B := M5) M5 hM5.self v10 ⟨h0, by grind⟩ (by simp) (by simp) (by simp) (by simp) (by simp) (by simp) (by simp) (by simp) (by simp)
      refine ok_b1 (ok_and d1 d2) (fun M14 v13 w => ?_)
      have hz : M14.1 43 0 v10.toNatClampNeg = 0 := w.1.2
      have h5 : M14.1 26 0 5 = M5.1 26 0 5 := w.2.1.same (by simp)
      have h43 : ∀ i, i ≠ v10.toNatClampNeg → M14.1 43 0 i = M5.1 43 0 i := fun i hi => w.2.1.same (by simp [hi])
      have hj : v10.toNatClampNeg < (M5.1 26 0 5).toNatClampNeg := by
        have e1 := cl_nI (v := v10) h0
        have e2 := cl_nI (v := M5.1 26 0 5) hw.1
        have l1 := cl_le (n := 40) (v := v10) (show v10 ≤ (40 : Int32) by grind) (by decide)
        have l2 := cl_le (n := 40) (v := M5.1 26 0 5) hw.2 (by decide)
        rw [← e1, ← e2, nI_ltI (by omega) (by omega)] at hlt
        exact hlt
      have hd := nb_drop (M := M5) (M2 := M14) hj hb hz (fun i hi => by rw [h43 i hi])
      refine ih _ M14 k1 ?_ w.1.1 hk
      rw [h5]
      omega
theorem s_X7_makesRoom {A : Nat → Nat → Nat → Prop} {B : SS} (M : SS) (hM : IV A B M) (a1 : A 26 0 38) (a2 : A 26 0 39) (a3 : A 26 0 40) (a4 : ∀ p, A 42 0 p) (a5 : ∀ p, A 43 0 p) (a6 : ∀ p, A 44 0 p) (a7 : ∀ p, A 45 0 p) (a8 : ∀ p, A 53 0 p) (a9 : ∀ p, A 54 0 p) : ok (f_X7_makesRoom M) (fun r => IV A B r.1 ∧ True) := by
  unfold f_X7_makesRoom
  have pf1 : ((nb M (M.1 26 0 5).toNatClampNeg : Nat) : Int) + 1 ≤ (1000 : Nat) := by
    have c2 : (0 : Int32) ≤ (M.1 26 0 5) ∧ (M.1 26 0 5) ≤ (40 : Int32) := hM.at1 26 0 5
    have h5 := hM.at1 26 0 5; exact nb_start h5.2
  refine s_X7_makesRoom_L2 (a1) (a2) (a3) (fun p => a4 p) (fun p => a5 p) (fun p => a6 p) (fun p => a7 p) (fun p => a8 p) (fun p => a9 p) 1000 (0 : Int32) M _ pf1 hM (fun v2 M3 hM3 => ?_)
  exact ok_some ⟨hM3, trivial⟩
theorem s_X7_submit {A : Nat → Nat → Nat → Prop} {B : SS} (M : SS) (hM : IV A B M) (p0 : Int32) (p1 : Int32) (a1 : ∀ p, A 141 0 p) (a2 : A 26 0 38) (a3 : A 26 0 39) (a4 : A 26 0 40) (a5 : A 26 0 5) (a6 : A 26 0 9) (a7 : ∀ p, p < 960 → A 27 0 p) (a8 : ∀ p, p < 960 → A 28 0 p) (a9 : ∀ p, A 29 0 p) (a10 : ∀ p, A 39 0 p) (a11 : ∀ p, A 40 0 p) (a12 : ∀ p, A 42 0 p) (a13 : ∀ p, A 43 0 p) (a14 : ∀ p, A 44 0 p) (a15 : ∀ p, A 45 0 p) (a16 : ∀ p, A 53 0 p) (a17 : ∀ p, A 54 0 p) : ok (f_X7_submit M p0 p1) (fun r => IV A B r.1 ∧ True) := by
  unfold f_X7_submit
  refine ok_b0 (s_X7_isMember M hM p0) (fun v1 w1 => ?_)
  have w2 : (0 : Int32) ≤ v1 ∧ v1 ≤ (1 : Int32) ∧ ((v1 = 0 ∧ (p0 < 0 ∨ (M.1 26 0 4) ≤ p0)) ∨ (v1 = 1 ∧ 0 ≤ p0 ∧ p0 < (M.1 26 0 4))) := w1
  refine ok_ite (fun q3 => ?_) (fun q3 => ?_)
  · refine ok_b1 (s_X7_fails M hM (1 : Int32) (show (1 : Int32) ≤ (1 : Int32) ∧ (1 : Int32) ≤ (3 : Int32) from ⟨by decide, by decide⟩) (a6)) (fun M5 v4 w4 => ?_)
    have hM5 : IV A B M5 := w4.1
    have w5 : (0 : Int32) ≤ v4 ∧ v4 ≤ (0 : Int32) := w4.2
    exact ok_some ⟨hM5, trivial⟩
  · refine ok_b0 (s_X7_isKata M hM p1) (fun v7 w6 => ?_)
    have w7 : (0 : Int32) ≤ v7 ∧ v7 ≤ (1 : Int32) ∧ ((v7 = 0 ∧ (p1 < 0 ∨ (M.1 26 0 3) ≤ p1)) ∨ (v7 = 1 ∧ 0 ≤ p1 ∧ p1 < (M.1 26 0 3))) := w6
    refine ok_ite (fun q8 => ?_) (fun q8 => ?_)
    · refine ok_b1 (s_X7_fails M hM (1 : Int32) (show (1 : Int32) ≤ (1 : Int32) ∧ (1 : Int32) ≤ (3 : Int32) from ⟨by decide, by decide⟩) (a6)) (fun M60 v59 w9 => ?_)
      have hM60 : IV A B M60 := w9.1
      have w10 : (0 : Int32) ≤ v59 ∧ v59 ≤ (0 : Int32) := w9.2
      exact ok_some ⟨hM60, trivial⟩
    · refine ok_b0 (s_X7_isWhole M hM (40 : Int32) (show (40 : Int32) ≤ (40 : Int32) ∧ (40 : Int32) ≤ (40 : Int32) from ⟨by decide, by decide⟩)) (fun v10 w11 => ?_)
      have w12 : (0 : Int32) ≤ v10 ∧ v10 ≤ (1 : Int32) := w11
      refine ok_ite (fun q13 => ?_) (fun q13 => ?_)
      · refine ok_b1 (s_X7_fails M hM (2 : Int32) (show (1 : Int32) ≤ (2 : Int32) ∧ (2 : Int32) ≤ (3 : Int32) from ⟨by decide, by decide⟩) (a6)) (fun M14 v13 w14 => ?_)
        have hM14 : IV A B M14 := w14.1
        have w15 : (0 : Int32) ≤ v13 ∧ v13 ≤ (0 : Int32) := w14.2
        exact ok_some ⟨hM14, trivial⟩
      · refine ok_gd ?_ (fun g16 => ?_)
        · have c17 : (0 : Int32) ≤ (M.1 26 0 3) ∧ (M.1 26 0 3) ≤ (8 : Int32) := hM.at1 26 0 3
          exact vp_of (by decide) (by grind) (show p1 < (8 : Int32) by grind)
        have g16 := vp_to (by decide) g16
        have g16 : (0 : Int32) ≤ p1 ∧ p1 < (8 : Int32) := g16
        refine ok_ite (fun q18 => ?_) (fun q18 => ?_)
        · refine ok_b1 (s_X7_fails M hM (2 : Int32) (show (1 : Int32) ≤ (2 : Int32) ∧ (2 : Int32) ≤ (3 : Int32) from ⟨by decide, by decide⟩) (a6)) (fun M57 v56 w19 => ?_)
          have hM57 : IV A B M57 := w19.1
          have w20 : (0 : Int32) ≤ v56 ∧ v56 ≤ (0 : Int32) := w19.2
          exact ok_some ⟨hM57, trivial⟩
        · refine ok_ite (fun q21 => ?_) (fun q21 => ?_)
          · refine ok_b1 (s_X7_fails M hM (3 : Int32) (show (1 : Int32) ≤ (3 : Int32) ∧ (3 : Int32) ≤ (3 : Int32) from ⟨by decide, by decide⟩) (a6)) (fun M54 v53 w22 => ?_)
            have hM54 : IV A B M54 := w22.1
            have w23 : (0 : Int32) ≤ v53 ∧ v53 ≤ (0 : Int32) := w22.2
            exact ok_some ⟨hM54, trivial⟩
          · have pf24 : (0 : Int32) ≤ p1 ∧ p1 ≤ (7 : Int32) := by
              have c25 : (0 : Int32) ≤ (M.1 26 0 3) ∧ (M.1 26 0 3) ≤ (8 : Int32) := hM.at1 26 0 3
              have c26 : (0 : Int32) ≤ (M.1 33 0 (p1).toNatClampNeg) ∧ (M.1 33 0 (p1).toNatClampNeg) ≤ (5 : Int32) := hM.at1 33 0 ((p1).toNatClampNeg)
              exact ⟨by grind, by grind⟩
            have f27 := ok_and (s_X7_passes M hM (40 : Int32) (show (0 : Int32) ≤ (40 : Int32) ∧ (40 : Int32) ≤ (40 : Int32) from ⟨by decide, by decide⟩) p1 pf24 (a2) (a3) (a4) (fun p => a16 p) (fun p => a17 p)) (s_X7_passes (A := (fun k i p => (k = 26 ∧ p = 38) ∨ (k = 26 ∧ p = 39) ∨ (k = 26 ∧ p = 40) ∨ (k = 53) ∨ (k = 54))) (B := M) M hM.self (40 : Int32) (show (0 : Int32) ≤ (40 : Int32) ∧ (40 : Int32) ≤ (40 : Int32) from ⟨by decide, by decide⟩) p1 pf24 (by simp) (by simp) (by simp) (by simp) (by simp))
            refine ok_b1 f27 (fun M20 v19 w28 => ?_)
            have w28a := w28.1
            have w28f : IV (fun k i p => (k = 26 ∧ p = 38) ∨ (k = 26 ∧ p = 39) ∨ (k = 26 ∧ p = 40) ∨ (k = 53) ∨ (k = 54)) M M20 := w28.2.1
            have hM20 : IV A B M20 := w28a.1
            have w29 : (0 : Int32) ≤ v19 ∧ v19 ≤ (1 : Int32) := w28a.2
            refine ok_ite (fun q30 => ?_) (fun q30 => ?_)
            · refine ok_b1 (s_X7_tells M20 hM20 ((-1) : Int32) (a6)) (fun M51 v50 w31 => ?_)
              have hM51 : IV A B M51 := w31.1
              exact ok_some ⟨hM51, trivial⟩
            · refine ok_lq (fun v23 eq_32 => ?_)
              have pf33 : (0 : Int32) ≤ v23 ∧ v23 ≤ (39 : Int32) := by
                have c34 : (0 : Int32) ≤ (M20.1 26 0 5) ∧ (M20.1 26 0 5) ≤ (40 : Int32) := hM20.at1 26 0 5
                have c35 : (M20.1 26 0 5) = (M.1 26 0 5) := w28f.same (by simp)
                have c36 : (0 : Int32) ≤ (M.1 26 0 5) ∧ (M.1 26 0 5) ≤ (40 : Int32) := hM.at1 26 0 5
                exact ⟨by grind, by grind⟩
              have f37 := ok_and (s_X7_copies M20 hM20 (40 : Int32) (show (40 : Int32) ≤ (40 : Int32) ∧ (40 : Int32) ≤ (40 : Int32) from ⟨by decide, by decide⟩) v23 pf33 (fun p h => a7 p h) (fun p h => a8 p h) (a9 ((v23).toNatClampNeg))) (s_X7_copies (A := (fun k i p => (k = 27) ∨ (k = 28) ∨ (k = 29))) (B := M20) M20 hM20.self (40 : Int32) (show (40 : Int32) ≤ (40 : Int32) ∧ (40 : Int32) ≤ (40 : Int32) from ⟨by decide, by decide⟩) v23 pf33 (by simp) (by simp) (by simp))
              refine ok_b1 f37 (fun M25 v24 w38 => ?_)
              have w38a := w38.1
              have w38f : IV (fun k i p => (k = 27) ∨ (k = 28) ∨ (k = 29)) M20 M25 := w38.2.1
              have hM25 : IV A B M25 := w38a.1
              refine ok_gd ?_ (fun g39 => ?_)
              · have c40 : (0 : Int32) ≤ (M20.1 26 0 5) ∧ (M20.1 26 0 5) ≤ (40 : Int32) := hM20.at1 26 0 5
                have c41 : (M20.1 26 0 5) = (M.1 26 0 5) := w28f.same (by simp)
                have c42 : (0 : Int32) ≤ (M.1 26 0 5) ∧ (M.1 26 0 5) ≤ (40 : Int32) := hM.at1 26 0 5
                exact vp_of (by decide) (by grind) (show v23 < (40 : Int32) by grind)
              have g39 := vp_to (by decide) g39
              have g39 : (0 : Int32) ≤ v23 ∧ v23 < (40 : Int32) := g39
              refine ok_lq (fun M28 eq_43 => ?_)
              have pf44 : (0 : Int32) ≤ p0 ∧ p0 ≤ (9 : Int32) := by
                have c45 : (0 : Int32) ≤ (M.1 26 0 4) ∧ (M.1 26 0 4) ≤ (10 : Int32) := hM.at1 26 0 4
                exact ⟨by grind, by grind⟩
              have hM28 : IV A B M28 := by rw [eq_43]; exact hM25.w1 rfl (a10 ((v23).toNatClampNeg)) pf44
              refine ok_gd ?_ (fun g46 => ?_)
              · have c47 : (0 : Int32) ≤ (M20.1 26 0 5) ∧ (M20.1 26 0 5) ≤ (40 : Int32) := hM20.at1 26 0 5
                have c48 : (M20.1 26 0 5) = (M.1 26 0 5) := w28f.same (by simp)
                have c49 : (0 : Int32) ≤ (M.1 26 0 5) ∧ (M.1 26 0 5) ≤ (40 : Int32) := hM.at1 26 0 5
                exact vp_of (by decide) (by grind) (show v23 < (40 : Int32) by grind)
              have g46 := vp_to (by decide) g46
              have g46 : (0 : Int32) ≤ v23 ∧ v23 < (40 : Int32) := g46
              refine ok_lq (fun M30 eq_50 => ?_)
              have pf51 : (0 : Int32) ≤ p1 ∧ p1 ≤ (7 : Int32) := by
                have c52 : (0 : Int32) ≤ (M.1 26 0 3) ∧ (M.1 26 0 3) ≤ (8 : Int32) := hM.at1 26 0 3
                have c53 : (0 : Int32) ≤ (M.1 33 0 (p1).toNatClampNeg) ∧ (M.1 33 0 (p1).toNatClampNeg) ≤ (5 : Int32) := hM.at1 33 0 ((p1).toNatClampNeg)
                exact ⟨by grind, by grind⟩
              have hM30 : IV A B M30 := by rw [eq_50]; exact hM28.w1 rfl (a11 ((v23).toNatClampNeg)) pf51
              have pf54 : (0 : Int32) ≤ v23 ∧ v23 ≤ (40 : Int32) := by
                have c55 : (0 : Int32) ≤ (M20.1 26 0 5) ∧ (M20.1 26 0 5) ≤ (40 : Int32) := hM20.at1 26 0 5
                have c56 : (M20.1 26 0 5) = (M.1 26 0 5) := w28f.same (by simp)
                have c57 : (0 : Int32) ≤ (M.1 26 0 5) ∧ (M.1 26 0 5) ≤ (40 : Int32) := hM.at1 26 0 5
                exact ⟨by grind, by grind⟩
              refine ok_b0 (s_X7_sumOf M30 hM30 v23 pf54) (fun v31 w58 => ?_)
              refine ok_gd ?_ (fun g59 => ?_)
              · have c60 : (0 : Int32) ≤ (M20.1 26 0 5) ∧ (M20.1 26 0 5) ≤ (40 : Int32) := hM20.at1 26 0 5
                have c61 : (M20.1 26 0 5) = (M.1 26 0 5) := w28f.same (by simp)
                have c62 : (0 : Int32) ≤ (M.1 26 0 5) ∧ (M.1 26 0 5) ≤ (40 : Int32) := hM.at1 26 0 5
                exact vp_of (by decide) (by grind) (show v23 < (40 : Int32) by grind)
              have g59 := vp_to (by decide) g59
              have g59 : (0 : Int32) ≤ v23 ∧ v23 < (40 : Int32) := g59
              refine ok_lq (fun M34 eq_63 => ?_)
              have hM34 : IV A B M34 := by rw [eq_63]; exact hM30.w2 (a1 ((v23).toNatClampNeg))
              refine ok_gd ?_ (fun g64 => ?_)
              · have c65 : (0 : Int32) ≤ (M20.1 26 0 5) ∧ (M20.1 26 0 5) ≤ (40 : Int32) := hM20.at1 26 0 5
                have c66 : (M20.1 26 0 5) = (M.1 26 0 5) := w28f.same (by simp)
                have c67 : (0 : Int32) ≤ (M.1 26 0 5) ∧ (M.1 26 0 5) ≤ (40 : Int32) := hM.at1 26 0 5
                exact vp_of (by decide) (by grind) (show v23 < (40 : Int32) by grind)
              have g64 := vp_to (by decide) g64
              have g64 : (0 : Int32) ≤ v23 ∧ v23 < (40 : Int32) := g64
              refine ok_lq (fun M36 eq_68 => ?_)
              have pf69 : (0 : Int32) ≤ (vp_nar .char (115 : Int32)) ∧ (vp_nar .char (115 : Int32)) ≤ (65535 : Int32) := by
                have c70 : (vp_nar .char (115 : Int32)) = (115 : Int32) := by decide
                exact ⟨by grind, by grind⟩
              have hM36 : IV A B M36 := by rw [eq_68]; exact hM34.w1 rfl (a12 ((v23).toNatClampNeg)) pf69
              refine ok_gd ?_ (fun g71 => ?_)
              · have c72 : (0 : Int32) ≤ (M20.1 26 0 5) ∧ (M20.1 26 0 5) ≤ (40 : Int32) := hM20.at1 26 0 5
                have c73 : (M20.1 26 0 5) = (M.1 26 0 5) := w28f.same (by simp)
                have c74 : (0 : Int32) ≤ (M.1 26 0 5) ∧ (M.1 26 0 5) ≤ (40 : Int32) := hM.at1 26 0 5
                exact vp_of (by decide) (by grind) (show v23 < (40 : Int32) by grind)
              have g71 := vp_to (by decide) g71
              have g71 : (0 : Int32) ≤ v23 ∧ v23 < (40 : Int32) := g71
              refine ok_lq (fun M38 eq_75 => ?_)
              have pf76 : (0 : Int32) ≤ (vp_nar .boolean (1 : Int32)) ∧ (vp_nar .boolean (1 : Int32)) ≤ (1 : Int32) := by
                have c77 : (vp_nar .boolean (1 : Int32)) = (1 : Int32) := by decide
                exact ⟨by grind, by grind⟩
              have hM38 : IV A B M38 := by rw [eq_75]; exact hM36.w1 rfl (a13 ((v23).toNatClampNeg)) pf76
              refine ok_lq (fun M39 eq_78 => ?_)
              have pf79 : (0 : Int32) ≤ ((M38.1 26 0 5) + (1 : Int32)) ∧ ((M38.1 26 0 5) + (1 : Int32)) ≤ (40 : Int32) := by
                have c80 : (vp_nar .boolean (1 : Int32)) = (1 : Int32) := by decide
                have c81 : (0 : Int32) ≤ (M38.1 26 0 5) ∧ (M38.1 26 0 5) ≤ (40 : Int32) := hM38.at1 26 0 5
                have c82 : (M38.1 26 0 5) = (M36.1 26 0 5) := by rw [eq_75]; exact up_k (by decide)
                have c83 : (0 : Int32) ≤ (M36.1 26 0 5) ∧ (M36.1 26 0 5) ≤ (40 : Int32) := hM36.at1 26 0 5
                have c84 : (M36.1 26 0 5) = (M34.1 26 0 5) := by rw [eq_68]; exact up_k (by decide)
                have c85 : (0 : Int32) ≤ (M34.1 26 0 5) ∧ (M34.1 26 0 5) ≤ (40 : Int32) := hM34.at1 26 0 5
                have c86 : (M34.1 26 0 5) = (M30.1 26 0 5) := by rw [eq_63]; rfl
                have c87 : (0 : Int32) ≤ (M30.1 26 0 5) ∧ (M30.1 26 0 5) ≤ (40 : Int32) := hM30.at1 26 0 5
                have c88 : (M30.1 26 0 5) = (M28.1 26 0 5) := by rw [eq_50]; exact up_k (by decide)
                have c89 : (0 : Int32) ≤ (M28.1 26 0 5) ∧ (M28.1 26 0 5) ≤ (40 : Int32) := hM28.at1 26 0 5
                have c90 : (M28.1 26 0 5) = (M25.1 26 0 5) := by rw [eq_43]; exact up_k (by decide)
                have c91 : (0 : Int32) ≤ (M25.1 26 0 5) ∧ (M25.1 26 0 5) ≤ (40 : Int32) := hM25.at1 26 0 5
                have c92 : (M25.1 26 0 5) = (M20.1 26 0 5) := w38f.same (by simp)
                have c93 : (0 : Int32) ≤ (M20.1 26 0 5) ∧ (M20.1 26 0 5) ≤ (40 : Int32) := hM20.at1 26 0 5
                have c94 : (M20.1 26 0 5) = (M.1 26 0 5) := w28f.same (by simp)
                have c95 : (0 : Int32) ≤ (M.1 26 0 5) ∧ (M.1 26 0 5) ≤ (40 : Int32) := hM.at1 26 0 5
                exact ⟨by grind, by grind⟩
              have hM39 : IV A B M39 := by rw [eq_78]; exact hM38.w1 rfl (a5) pf79
              refine ok_b1 (s_X7_makesRoom M39 hM39 (a2) (a3) (a4) (fun p => a12 p) (fun p => a13 p) (fun p => a14 p) (fun p => a15 p) (fun p => a16 p) (fun p => a17 p)) (fun M41 v40 w96 => ?_)
              have hM41 : IV A B M41 := w96.1
              refine ok_ite (fun q97 => ?_) (fun q97 => ?_)
              · refine ok_b1 (s_X7_tells M41 hM41 ((-1) : Int32) (a6)) (fun M45 v44 w98 => ?_)
                have hM45 : IV A B M45 := w98.1
                exact ok_some ⟨hM45, trivial⟩
              · refine ok_b1 (s_X7_tells M41 hM41 v23 (a6)) (fun M48 v47 w99 => ?_)
                have hM48 : IV A B M48 := w99.1
                exact ok_some ⟨hM48, trivial⟩
theorem s_X7_works {A : Nat → Nat → Nat → Prop} {B : SS} (M : SS) (hM : IV A B M) (a1 : A 26 0 9) : ok (f_X7_works M) (fun r => IV A B r.1 ∧ True) := by
  unfold f_X7_works
  refine ok_b1 (s_X7_tells M hM (M.1 26 0 5) (a1)) (fun M2 v1 w1 => ?_)
  have hM2 : IV A B M2 := w1.1
  exact ok_some ⟨hM2, trivial⟩
theorem s_X7_votesOf_L4 {A : Nat → Nat → Nat → Prop} {B : SS} (p0 : Int32) (ip0 : (0 : Int32) ≤ p0 ∧ p0 ≤ (39 : Int32)) (M : SS) (hM : IV A B M) : ∀ (n : Nat), ∀ (v3 : Int32) (v4 : Int32) (k1 : (Int32 → Option (Int32))), (FU v3 10 n) → ((0 : Int32) ≤ v3 ∧ v3 ≤ (10 : Int32)) → (∀ (k_0 : Int32), ok (k1 k_0) (fun r => True)) → ok (f_X7_votesOf_L4 p0 M n v3 v4 k1) (fun r => True) := by
  intro n
  induction n with
  | zero =>
    intro v3 v4 k1 hF iv3 hk
    exact (FU.stop hF (show v3 ≤ (10 : Int32) by grind)).elim
  | succ n ih =>
    intro v3 v4 k1 hF iv3 hk
    rw [f_X7_votesOf_L4]
    refine ok_ite (fun q1 => ?_) (fun q1 => ?_)
    · exact hk v4
    · refine ok_gd ?_ (fun g2 => ?_)
      · exact vp_of (by decide) (by grind) (show (((10 : Int32) * p0) + v3) < (400 : Int32) by grind)
      have g2 := vp_to (by decide) g2
      have g2 : (0 : Int32) ≤ (((10 : Int32) * p0) + v3) ∧ (((10 : Int32) * p0) + v3) < (400 : Int32) := g2
      refine ok_ite (fun q3 => ?_) (fun q3 => ?_)
      · refine ok_lq (fun v8 eq_4 => ?_)
        have pf5 : FU (v3 + (1 : Int32)) 10 n := by
          have c6 : (0 : Int32) ≤ (M.1 46 0 ((((10 : Int32) * p0) + v3)).toNatClampNeg) ∧ (M.1 46 0 ((((10 : Int32) * p0) + v3)).toNatClampNeg) ≤ (5 : Int32) := hM.at1 46 0 (((((10 : Int32) * p0) + v3)).toNatClampNeg)
          exact FU.step hF (by grind)
        have pf7 : (0 : Int32) ≤ (v3 + (1 : Int32)) ∧ (v3 + (1 : Int32)) ≤ (10 : Int32) := by
          have c8 : (0 : Int32) ≤ (M.1 46 0 ((((10 : Int32) * p0) + v3)).toNatClampNeg) ∧ (M.1 46 0 ((((10 : Int32) * p0) + v3)).toNatClampNeg) ≤ (5 : Int32) := hM.at1 46 0 (((((10 : Int32) * p0) + v3)).toNatClampNeg)
          exact ⟨by grind, by grind⟩
        exact ih (v3 + (1 : Int32)) v8 k1 pf5 pf7 hk
      · refine ok_lq (fun v9 eq_9 => ?_)
        have pf10 : FU (v3 + (1 : Int32)) 10 n := by
          have c11 : (0 : Int32) ≤ (M.1 46 0 ((((10 : Int32) * p0) + v3)).toNatClampNeg) ∧ (M.1 46 0 ((((10 : Int32) * p0) + v3)).toNatClampNeg) ≤ (5 : Int32) := hM.at1 46 0 (((((10 : Int32) * p0) + v3)).toNatClampNeg)
          exact FU.step hF (by grind)
        have pf12 : (0 : Int32) ≤ (v3 + (1 : Int32)) ∧ (v3 + (1 : Int32)) ≤ (10 : Int32) := by
          have c13 : (0 : Int32) ≤ (M.1 46 0 ((((10 : Int32) * p0) + v3)).toNatClampNeg) ∧ (M.1 46 0 ((((10 : Int32) * p0) + v3)).toNatClampNeg) ≤ (5 : Int32) := hM.at1 46 0 (((((10 : Int32) * p0) + v3)).toNatClampNeg)
          exact ⟨by grind, by grind⟩
        exact ih (v3 + (1 : Int32)) v9 k1 pf10 pf12 hk
theorem s_X7_votesOf {A : Nat → Nat → Nat → Prop} {B : SS} (M : SS) (hM : IV A B M) (p0 : Int32) (ip0 : (0 : Int32) ≤ p0 ∧ p0 ≤ (39 : Int32)) : ok (f_X7_votesOf M p0) (fun r => True) := by
  unfold f_X7_votesOf
  have pf1 : (0 : Int32) ≤ p0 ∧ p0 ≤ (39 : Int32) := by
    exact ⟨by grind, by grind⟩
  have pf2 : FU (0 : Int32) 10 1000 := by
    exact FU.start (by grind) (by decide)
  refine s_X7_votesOf_L4 p0 pf1 M hM 1000 (0 : Int32) (0 : Int32) _ pf2 (show (0 : Int32) ≤ (0 : Int32) ∧ (0 : Int32) ≤ (10 : Int32) from ⟨by decide, by decide⟩) (fun v2 => ?_)
  exact ok_some trivial
theorem s_X7_weighed_L4 {A : Nat → Nat → Nat → Prop} {B : SS} (p0 : Int32) (ip0 : (0 : Int32) ≤ p0 ∧ p0 ≤ (39 : Int32)) (M : SS) (hM : IV A B M) : ∀ (n : Nat), ∀ (v3 : Int32) (v4 : Int32) (k1 : (Int32 → Option (Int32))), (FU v3 10 n) → ((0 : Int32) ≤ v3 ∧ v3 ≤ (10 : Int32)) → (∀ (k_0 : Int32), ok (k1 k_0) (fun r => True)) → ok (f_X7_weighed_L4 p0 M n v3 v4 k1) (fun r => True) := by
  intro n
  induction n with
  | zero =>
    intro v3 v4 k1 hF iv3 hk
    exact (FU.stop hF (show v3 ≤ (10 : Int32) by grind)).elim
  | succ n ih =>
    intro v3 v4 k1 hF iv3 hk
    rw [f_X7_weighed_L4]
    refine ok_ite (fun q1 => ?_) (fun q1 => ?_)
    · exact hk v4
    · refine ok_gd ?_ (fun g2 => ?_)
      · exact vp_of (by decide) (by grind) (show (((10 : Int32) * p0) + v3) < (400 : Int32) by grind)
      have g2 := vp_to (by decide) g2
      have g2 : (0 : Int32) ≤ (((10 : Int32) * p0) + v3) ∧ (((10 : Int32) * p0) + v3) < (400 : Int32) := g2
      refine ok_gd ?_ (fun g3 => ?_)
      · exact vp_of (by decide) (by grind) (show (((10 : Int32) * p0) + v3) < (400 : Int32) by grind)
      have g3 := vp_to (by decide) g3
      have g3 : (0 : Int32) ≤ (((10 : Int32) * p0) + v3) ∧ (((10 : Int32) * p0) + v3) < (400 : Int32) := g3
      refine ok_lq (fun v8 eq_4 => ?_)
      have pf5 : FU (v3 + (1 : Int32)) 10 n := by
        exact FU.step hF (by grind)
      have pf6 : (0 : Int32) ≤ (v3 + (1 : Int32)) ∧ (v3 + (1 : Int32)) ≤ (10 : Int32) := by
        exact ⟨by grind, by grind⟩
      exact ih (v3 + (1 : Int32)) v8 k1 pf5 pf6 hk
theorem s_X7_weighed {A : Nat → Nat → Nat → Prop} {B : SS} (M : SS) (hM : IV A B M) (p0 : Int32) (ip0 : (0 : Int32) ≤ p0 ∧ p0 ≤ (39 : Int32)) : ok (f_X7_weighed M p0) (fun r => True) := by
  unfold f_X7_weighed
  have pf1 : (0 : Int32) ≤ p0 ∧ p0 ≤ (39 : Int32) := by
    exact ⟨by grind, by grind⟩
  have pf2 : FU (0 : Int32) 10 1000 := by
    exact FU.start (by grind) (by decide)
  refine s_X7_weighed_L4 p0 pf1 M hM 1000 (0 : Int32) (0 : Int32) _ pf2 (show (0 : Int32) ≤ (0 : Int32) ∧ (0 : Int32) ≤ (10 : Int32) from ⟨by decide, by decide⟩) (fun v2 => ?_)
  exact ok_some trivial
theorem s_X7_of {A : Nat → Nat → Nat → Prop} {B : SS} (M : SS) (hM : IV A B M) (p0 : Int32) (p1 : Int32) (a1 : A 26 0 9) : ok (f_X7_of M p0 p1) (fun r => IV A B r.1 ∧ True) := by
  unfold f_X7_of
  refine ok_b0 (s_X7_isWork M hM p0) (fun v1 w1 => ?_)
  have w2 : (0 : Int32) ≤ v1 ∧ v1 ≤ (1 : Int32) ∧ ((v1 = 0 ∧ (p0 < 0 ∨ (M.1 26 0 5) ≤ p0)) ∨ (v1 = 1 ∧ 0 ≤ p0 ∧ p0 < (M.1 26 0 5))) := w1
  refine ok_ite (fun q3 => ?_) (fun q3 => ?_)
  · refine ok_b1 (s_X7_fails M hM (1 : Int32) (show (1 : Int32) ≤ (1 : Int32) ∧ (1 : Int32) ≤ (3 : Int32) from ⟨by decide, by decide⟩) (a1)) (fun M36 v35 w4 => ?_)
    have hM36 : IV A B M36 := w4.1
    have w5 : (0 : Int32) ≤ v35 ∧ v35 ≤ (0 : Int32) := w4.2
    exact ok_some ⟨hM36, trivial⟩
  · refine ok_ite (fun q6 => ?_) (fun q6 => ?_)
    · refine ok_gd ?_ (fun g7 => ?_)
      · have c8 : (0 : Int32) ≤ (M.1 26 0 5) ∧ (M.1 26 0 5) ≤ (40 : Int32) := hM.at1 26 0 5
        exact vp_of (by decide) (by grind) (show p0 < (40 : Int32) by grind)
      have g7 := vp_to (by decide) g7
      have g7 : (0 : Int32) ≤ p0 ∧ p0 < (40 : Int32) := g7
      refine ok_b1 (s_X7_tells M hM (M.1 40 0 (p0).toNatClampNeg) (a1)) (fun M8 v7 w9 => ?_)
      have hM8 : IV A B M8 := w9.1
      exact ok_some ⟨hM8, trivial⟩
    · refine ok_ite (fun q10 => ?_) (fun q10 => ?_)
      · refine ok_gd ?_ (fun g11 => ?_)
        · have c12 : (0 : Int32) ≤ (M.1 26 0 5) ∧ (M.1 26 0 5) ≤ (40 : Int32) := hM.at1 26 0 5
          exact vp_of (by decide) (by grind) (show p0 < (40 : Int32) by grind)
        have g11 := vp_to (by decide) g11
        have g11 : (0 : Int32) ≤ p0 ∧ p0 < (40 : Int32) := g11
        refine ok_b1 (s_X7_tells M hM (M.1 39 0 (p0).toNatClampNeg) (a1)) (fun M13 v12 w13 => ?_)
        have hM13 : IV A B M13 := w13.1
        exact ok_some ⟨hM13, trivial⟩
      · refine ok_ite (fun q14 => ?_) (fun q14 => ?_)
        · refine ok_gd ?_ (fun g15 => ?_)
          · have c16 : (0 : Int32) ≤ (M.1 26 0 5) ∧ (M.1 26 0 5) ≤ (40 : Int32) := hM.at1 26 0 5
            exact vp_of (by decide) (by grind) (show p0 < (41 : Int32) by grind)
          have g15 := vp_to (by decide) g15
          have g15 : (0 : Int32) ≤ p0 ∧ p0 < (41 : Int32) := g15
          refine ok_b1 (s_X7_tells M hM (M.1 29 0 (p0).toNatClampNeg) (a1)) (fun M18 v17 w17 => ?_)
          have hM18 : IV A B M18 := w17.1
          exact ok_some ⟨hM18, trivial⟩
        · refine ok_ite (fun q18 => ?_) (fun q18 => ?_)
          · have pf19 : (0 : Int32) ≤ p0 ∧ p0 ≤ (39 : Int32) := by
              have c20 : (0 : Int32) ≤ (M.1 26 0 5) ∧ (M.1 26 0 5) ≤ (40 : Int32) := hM.at1 26 0 5
              exact ⟨by grind, by grind⟩
            refine ok_b0 (s_X7_votesOf M hM p0 pf19) (fun v21 w21 => ?_)
            refine ok_b1 (s_X7_tells M hM v21 (a1)) (fun M24 v23 w22 => ?_)
            have hM24 : IV A B M24 := w22.1
            exact ok_some ⟨hM24, trivial⟩
          · refine ok_ite (fun q23 => ?_) (fun q23 => ?_)
            · have pf24 : (0 : Int32) ≤ p0 ∧ p0 ≤ (39 : Int32) := by
                have c25 : (0 : Int32) ≤ (M.1 26 0 5) ∧ (M.1 26 0 5) ≤ (40 : Int32) := hM.at1 26 0 5
                exact ⟨by grind, by grind⟩
              refine ok_b0 (s_X7_weightOf M hM p0 pf24) (fun v27 w26 => ?_)
              have w27 : ((0 : Int32) ≤ v27 ∧ v27 ≤ (60 : Int32)) := w26
              refine ok_b1 (s_X7_tells M hM v27 (a1)) (fun M30 v29 w28 => ?_)
              have hM30 : IV A B M30 := w28.1
              exact ok_some ⟨hM30, trivial⟩
            · refine ok_b1 (s_X7_fails M hM (2 : Int32) (show (1 : Int32) ≤ (2 : Int32) ∧ (2 : Int32) ≤ (3 : Int32) from ⟨by decide, by decide⟩) (a1)) (fun M33 v32 w29 => ?_)
              have hM33 : IV A B M33 := w29.1
              have w30 : (0 : Int32) ≤ v32 ∧ v32 ≤ (0 : Int32) := w29.2
              exact ok_some ⟨hM33, trivial⟩
theorem s_X7_state {A : Nat → Nat → Nat → Prop} {B : SS} (M : SS) (hM : IV A B M) (p0 : Int32) (a1 : A 26 0 9) : ok (f_X7_state M p0) (fun r => IV A B r.1 ∧ (0 : Int32) ≤ r.2 ∧ r.2 ≤ (65535 : Int32)) := by
  unfold f_X7_state
  refine ok_b0 (s_X7_isWork M hM p0) (fun v1 w1 => ?_)
  have w2 : (0 : Int32) ≤ v1 ∧ v1 ≤ (1 : Int32) ∧ ((v1 = 0 ∧ (p0 < 0 ∨ (M.1 26 0 5) ≤ p0)) ∨ (v1 = 1 ∧ 0 ≤ p0 ∧ p0 < (M.1 26 0 5))) := w1
  refine ok_ite (fun q3 => ?_) (fun q3 => ?_)
  · unfold f_X7_state_J14
    refine ok_lq (fun M5 eq_4 => ?_)
    have hM5 : IV A B M5 := by rw [eq_4]; exact hM.w1 rfl (a1) (show (0 : Int32) ≤ (1 : Int32) ∧ (1 : Int32) ≤ (3 : Int32) from ⟨by decide, by decide⟩)
    refine ok_ite (fun q5 => ?_) (fun q5 => ?_)
    · have c6 : (M5.1 26 0 9) = (1 : Int32) := by rw [eq_4]; exact up_s
      exfalso
      grind
    · have c7 : (M5.1 26 0 9) = (1 : Int32) := by rw [eq_4]; exact up_s
      have pf8 : (0 : Int32) ≤ (0 : Int32) ∧ (0 : Int32) ≤ (65535 : Int32) := by
        exact ⟨by grind, by grind⟩
      exact ok_some ⟨hM5, pf8⟩
  · unfold f_X7_state_J14
    refine ok_lq (fun M5 eq_9 => ?_)
    have hM5 : IV A B M5 := by rw [eq_9]; exact hM.w1 rfl (a1) (show (0 : Int32) ≤ (0 : Int32) ∧ (0 : Int32) ≤ (3 : Int32) from ⟨by decide, by decide⟩)
    refine ok_ite (fun q10 => ?_) (fun q10 => ?_)
    · have c11 : (M5.1 26 0 9) = (0 : Int32) := by rw [eq_9]; exact up_s
      refine ok_gd ?_ (fun g12 => ?_)
      · have c13 : (0 : Int32) ≤ (M.1 26 0 5) ∧ (M.1 26 0 5) ≤ (40 : Int32) := hM.at1 26 0 5
        exact vp_of (by decide) (by grind) (show p0 < (40 : Int32) by grind)
      have g12 := vp_to (by decide) g12
      have g12 : (0 : Int32) ≤ p0 ∧ p0 < (40 : Int32) := g12
      refine ok_gd ?_ (fun g14 => ?_)
      · have c15 : (0 : Int32) ≤ (M5.1 42 0 (p0).toNatClampNeg) ∧ (M5.1 42 0 (p0).toNatClampNeg) ≤ (65535 : Int32) := hM5.at1 42 0 ((p0).toNatClampNeg)
        have c16 : (M5.1 42 0 (p0).toNatClampNeg) = (M.1 42 0 (p0).toNatClampNeg) := by rw [eq_9]; exact up_k (by decide)
        have c17 : (0 : Int32) ≤ (M.1 26 0 5) ∧ (M.1 26 0 5) ≤ (40 : Int32) := hM.at1 26 0 5
        have c18 : (0 : Int32) ≤ (M.1 42 0 (p0).toNatClampNeg) ∧ (M.1 42 0 (p0).toNatClampNeg) ≤ (65535 : Int32) := hM.at1 42 0 ((p0).toNatClampNeg)
        exact okc_of (by grind) (by grind)
      have pf19 : (0 : Int32) ≤ (M5.1 42 0 (p0).toNatClampNeg) ∧ (M5.1 42 0 (p0).toNatClampNeg) ≤ (65535 : Int32) := by
        have c20 : (0 : Int32) ≤ (M5.1 42 0 (p0).toNatClampNeg) ∧ (M5.1 42 0 (p0).toNatClampNeg) ≤ (65535 : Int32) := hM5.at1 42 0 ((p0).toNatClampNeg)
        have c21 : (M5.1 42 0 (p0).toNatClampNeg) = (M.1 42 0 (p0).toNatClampNeg) := by rw [eq_9]; exact up_k (by decide)
        have c22 : (0 : Int32) ≤ (M.1 26 0 5) ∧ (M.1 26 0 5) ≤ (40 : Int32) := hM.at1 26 0 5
        have c23 : (0 : Int32) ≤ (M.1 42 0 (p0).toNatClampNeg) ∧ (M.1 42 0 (p0).toNatClampNeg) ≤ (65535 : Int32) := hM.at1 42 0 ((p0).toNatClampNeg)
        exact ⟨by grind, by grind⟩
      exact ok_some ⟨hM5, pf19⟩
    · have c24 : (M5.1 26 0 9) = (0 : Int32) := by rw [eq_9]; exact up_s
      exfalso
      grind
theorem s_X7_sum {A : Nat → Nat → Nat → Prop} {B : SS} (M : SS) (hM : IV A B M) (p0 : Int32) (a1 : A 26 0 9) : ok (f_X7_sum M p0) (fun r => IV A B r.1 ∧ True) := by
  unfold f_X7_sum
  refine ok_b0 (s_X7_isWork M hM p0) (fun v1 w1 => ?_)
  have w2 : (0 : Int32) ≤ v1 ∧ v1 ≤ (1 : Int32) ∧ ((v1 = 0 ∧ (p0 < 0 ∨ (M.1 26 0 5) ≤ p0)) ∨ (v1 = 1 ∧ 0 ≤ p0 ∧ p0 < (M.1 26 0 5))) := w1
  refine ok_ite (fun q3 => ?_) (fun q3 => ?_)
  · unfold f_X7_sum_J14
    refine ok_lq (fun M5 eq_4 => ?_)
    have hM5 : IV A B M5 := by rw [eq_4]; exact hM.w1 rfl (a1) (show (0 : Int32) ≤ (1 : Int32) ∧ (1 : Int32) ≤ (3 : Int32) from ⟨by decide, by decide⟩)
    refine ok_ite (fun q5 => ?_) (fun q5 => ?_)
    · have c6 : (M5.1 26 0 9) = (1 : Int32) := by rw [eq_4]; exact up_s
      exfalso
      grind
    · have c7 : (M5.1 26 0 9) = (1 : Int32) := by rw [eq_4]; exact up_s
      exact ok_some ⟨hM5, trivial⟩
  · unfold f_X7_sum_J14
    refine ok_lq (fun M5 eq_8 => ?_)
    have hM5 : IV A B M5 := by rw [eq_8]; exact hM.w1 rfl (a1) (show (0 : Int32) ≤ (0 : Int32) ∧ (0 : Int32) ≤ (3 : Int32) from ⟨by decide, by decide⟩)
    refine ok_ite (fun q9 => ?_) (fun q9 => ?_)
    · have c10 : (M5.1 26 0 9) = (0 : Int32) := by rw [eq_8]; exact up_s
      refine ok_gd ?_ (fun g11 => ?_)
      · have c12 : (0 : Int32) ≤ (M.1 26 0 5) ∧ (M.1 26 0 5) ≤ (40 : Int32) := hM.at1 26 0 5
        exact vp_of (by decide) (by grind) (show p0 < (40 : Int32) by grind)
      have g11 := vp_to (by decide) g11
      have g11 : (0 : Int32) ≤ p0 ∧ p0 < (40 : Int32) := g11
      exact ok_some ⟨hM5, trivial⟩
    · have c13 : (M5.1 26 0 9) = (0 : Int32) := by rw [eq_8]; exact up_s
      exfalso
      grind
theorem s_X7_steps {A : Nat → Nat → Nat → Prop} {B : SS} (M : SS) (hM : IV A B M) (p0 : Int32) (p1 : Int32) (a1 : A 26 0 38) (a2 : A 26 0 39) (a3 : A 26 0 40) (a4 : A 26 0 9) (a5 : ∀ p, A 53 0 p) (a6 : ∀ p, A 54 0 p) : ok (f_X7_steps M p0 p1) (fun r => IV A B r.1 ∧ True) := by
  unfold f_X7_steps
  refine ok_b0 (s_X7_isWork M hM p0) (fun v1 w1 => ?_)
  have w2 : (0 : Int32) ≤ v1 ∧ v1 ≤ (1 : Int32) ∧ ((v1 = 0 ∧ (p0 < 0 ∨ (M.1 26 0 5) ≤ p0)) ∨ (v1 = 1 ∧ 0 ≤ p0 ∧ p0 < (M.1 26 0 5))) := w1
  refine ok_ite (fun q3 => ?_) (fun q3 => ?_)
  · refine ok_b1 (s_X7_fails M hM (1 : Int32) (show (1 : Int32) ≤ (1 : Int32) ∧ (1 : Int32) ≤ (3 : Int32) from ⟨by decide, by decide⟩) (a4)) (fun M5 v4 w4 => ?_)
    have hM5 : IV A B M5 := w4.1
    have w5 : (0 : Int32) ≤ v4 ∧ v4 ≤ (0 : Int32) := w4.2
    exact ok_some ⟨hM5, trivial⟩
  · refine ok_gd ?_ (fun g6 => ?_)
    · have c7 : (0 : Int32) ≤ (M.1 26 0 5) ∧ (M.1 26 0 5) ≤ (40 : Int32) := hM.at1 26 0 5
      exact vp_of (by decide) (by grind) (show p0 < (40 : Int32) by grind)
    have g6 := vp_to (by decide) g6
    have g6 : (0 : Int32) ≤ p0 ∧ p0 < (40 : Int32) := g6
    refine ok_b0 (s_X7_isTest M hM (M.1 40 0 (p0).toNatClampNeg) p1) (fun v8 w8 => ?_)
    have w9 : (0 : Int32) ≤ v8 ∧ v8 ≤ (1 : Int32) ∧ ((v8 = 0 ∧ (((M.1 40 0 (p0).toNatClampNeg) < 0 ∨ (M.1 26 0 3) ≤ (M.1 40 0 (p0).toNatClampNeg)) ∨ p1 < 0 ∨ (M.1 33 0 ((M.1 40 0 (p0).toNatClampNeg)).toNatClampNeg) ≤ p1)) ∨ (v8 = 1 ∧ 0 ≤ (M.1 40 0 (p0).toNatClampNeg) ∧ (M.1 40 0 (p0).toNatClampNeg) < (M.1 26 0 3) ∧ 0 ≤ p1 ∧ p1 < (M.1 33 0 ((M.1 40 0 (p0).toNatClampNeg)).toNatClampNeg))) := w8
    refine ok_ite (fun q10 => ?_) (fun q10 => ?_)
    · refine ok_b1 (s_X7_fails M hM (1 : Int32) (show (1 : Int32) ≤ (1 : Int32) ∧ (1 : Int32) ≤ (3 : Int32) from ⟨by decide, by decide⟩) (a4)) (fun M22 v21 w11 => ?_)
      have hM22 : IV A B M22 := w11.1
      have w12 : (0 : Int32) ≤ v21 ∧ v21 ≤ (0 : Int32) := w11.2
      exact ok_some ⟨hM22, trivial⟩
    · have pf13 : (0 : Int32) ≤ p0 ∧ p0 ≤ (39 : Int32) := by
        have c14 : (0 : Int32) ≤ (M.1 26 0 5) ∧ (M.1 26 0 5) ≤ (40 : Int32) := hM.at1 26 0 5
        have c15 : (0 : Int32) ≤ (M.1 40 0 (p0).toNatClampNeg) ∧ (M.1 40 0 (p0).toNatClampNeg) ≤ (7 : Int32) := hM.at1 40 0 ((p0).toNatClampNeg)
        have c16 : (0 : Int32) ≤ (M.1 26 0 3) ∧ (M.1 26 0 3) ≤ (8 : Int32) := hM.at1 26 0 3
        have c17 : (0 : Int32) ≤ (M.1 33 0 ((M.1 40 0 (p0).toNatClampNeg)).toNatClampNeg) ∧ (M.1 33 0 ((M.1 40 0 (p0).toNatClampNeg)).toNatClampNeg) ≤ (5 : Int32) := hM.at1 33 0 (((M.1 40 0 (p0).toNatClampNeg)).toNatClampNeg)
        exact ⟨by grind, by grind⟩
      have pf18 : (0 : Int32) ≤ p1 ∧ p1 ≤ (4 : Int32) := by
        have c19 : (0 : Int32) ≤ (M.1 40 0 (p0).toNatClampNeg) ∧ (M.1 40 0 (p0).toNatClampNeg) ≤ (7 : Int32) := hM.at1 40 0 ((p0).toNatClampNeg)
        have c20 : (0 : Int32) ≤ (M.1 26 0 3) ∧ (M.1 26 0 3) ≤ (8 : Int32) := hM.at1 26 0 3
        have c21 : (0 : Int32) ≤ (M.1 33 0 ((M.1 40 0 (p0).toNatClampNeg)).toNatClampNeg) ∧ (M.1 33 0 ((M.1 40 0 (p0).toNatClampNeg)).toNatClampNeg) ≤ (5 : Int32) := hM.at1 33 0 (((M.1 40 0 (p0).toNatClampNeg)).toNatClampNeg)
        have c22 : (0 : Int32) ≤ (M.1 26 0 5) ∧ (M.1 26 0 5) ≤ (40 : Int32) := hM.at1 26 0 5
        exact ⟨by grind, by grind⟩
      refine ok_b1 (s_X7_stepsOf M hM p0 pf13 p1 pf18 (a1) (a2) (a3) (fun p => a5 p) (fun p => a6 p)) (fun M12 v11 w23 => ?_)
      have hM12 : IV A B M12 := w23.1
      refine ok_ite (fun q24 => ?_) (fun q24 => ?_)
      · refine ok_b1 (s_X7_fails M12 hM12 (2 : Int32) (show (1 : Int32) ≤ (2 : Int32) ∧ (2 : Int32) ≤ (3 : Int32) from ⟨by decide, by decide⟩) (a4)) (fun M19 v18 w25 => ?_)
        have hM19 : IV A B M19 := w25.1
        have w26 : (0 : Int32) ≤ v18 ∧ v18 ≤ (0 : Int32) := w25.2
        exact ok_some ⟨hM19, trivial⟩
      · refine ok_b1 (s_X7_tells M12 hM12 v11 (a4)) (fun M16 v15 w27 => ?_)
        have hM16 : IV A B M16 := w27.1
        exact ok_some ⟨hM16, trivial⟩
theorem s_X7_hasBody {A : Nat → Nat → Nat → Prop} {B : SS} (M : SS) (hM : IV A B M) (p0 : Int32) (a1 : A 26 0 9) : ok (f_X7_hasBody M p0) (fun r => IV A B r.1 ∧ (0 : Int32) ≤ r.2 ∧ r.2 ≤ (1 : Int32)) := by
  unfold f_X7_hasBody
  refine ok_b0 (s_X7_isWork M hM p0) (fun v1 w1 => ?_)
  have w2 : (0 : Int32) ≤ v1 ∧ v1 ≤ (1 : Int32) ∧ ((v1 = 0 ∧ (p0 < 0 ∨ (M.1 26 0 5) ≤ p0)) ∨ (v1 = 1 ∧ 0 ≤ p0 ∧ p0 < (M.1 26 0 5))) := w1
  refine ok_ite (fun q3 => ?_) (fun q3 => ?_)
  · unfold f_X7_hasBody_J14
    refine ok_lq (fun M5 eq_4 => ?_)
    have hM5 : IV A B M5 := by rw [eq_4]; exact hM.w1 rfl (a1) (show (0 : Int32) ≤ (1 : Int32) ∧ (1 : Int32) ≤ (3 : Int32) from ⟨by decide, by decide⟩)
    refine ok_ite (fun q5 => ?_) (fun q5 => ?_)
    · have c6 : (M5.1 26 0 9) = (1 : Int32) := by rw [eq_4]; exact up_s
      exfalso
      grind
    · have c7 : (M5.1 26 0 9) = (1 : Int32) := by rw [eq_4]; exact up_s
      have pf8 : (0 : Int32) ≤ (0 : Int32) ∧ (0 : Int32) ≤ (1 : Int32) := by
        exact ⟨by grind, by grind⟩
      exact ok_some ⟨hM5, pf8⟩
  · unfold f_X7_hasBody_J14
    refine ok_lq (fun M5 eq_9 => ?_)
    have hM5 : IV A B M5 := by rw [eq_9]; exact hM.w1 rfl (a1) (show (0 : Int32) ≤ (0 : Int32) ∧ (0 : Int32) ≤ (3 : Int32) from ⟨by decide, by decide⟩)
    refine ok_ite (fun q10 => ?_) (fun q10 => ?_)
    · have c11 : (M5.1 26 0 9) = (0 : Int32) := by rw [eq_9]; exact up_s
      refine ok_gd ?_ (fun g12 => ?_)
      · have c13 : (0 : Int32) ≤ (M.1 26 0 5) ∧ (M.1 26 0 5) ≤ (40 : Int32) := hM.at1 26 0 5
        exact vp_of (by decide) (by grind) (show p0 < (40 : Int32) by grind)
      have g12 := vp_to (by decide) g12
      have g12 : (0 : Int32) ≤ p0 ∧ p0 < (40 : Int32) := g12
      refine ok_ite (fun q14 => ?_) (fun q14 => ?_)
      · have pf15 : (0 : Int32) ≤ (0 : Int32) ∧ (0 : Int32) ≤ (1 : Int32) := by
          exact ⟨by grind, by grind⟩
        exact ok_some ⟨hM5, pf15⟩
      · have pf16 : (0 : Int32) ≤ (1 : Int32) ∧ (1 : Int32) ≤ (1 : Int32) := by
          exact ⟨by grind, by grind⟩
        exact ok_some ⟨hM5, pf16⟩
    · have c17 : (M5.1 26 0 9) = (0 : Int32) := by rw [eq_9]; exact up_s
      exfalso
      grind
theorem s_X7_letter {A : Nat → Nat → Nat → Prop} {B : SS} (M : SS) (hM : IV A B M) (p0 : Int32) (p1 : Int32) (a1 : A 26 0 9) : ok (f_X7_letter M p0 p1) (fun r => IV A B r.1 ∧ (0 : Int32) ≤ r.2 ∧ r.2 ≤ (65535 : Int32)) := by
  unfold f_X7_letter
  refine ok_b0 (s_X7_isWork M hM p0) (fun v1 w1 => ?_)
  have w2 : (0 : Int32) ≤ v1 ∧ v1 ≤ (1 : Int32) ∧ ((v1 = 0 ∧ (p0 < 0 ∨ (M.1 26 0 5) ≤ p0)) ∨ (v1 = 1 ∧ 0 ≤ p0 ∧ p0 < (M.1 26 0 5))) := w1
  refine ok_ite (fun q3 => ?_) (fun q3 => ?_)
  · unfold f_X7_letter_J43
    refine ok_lq (fun M5 eq_4 => ?_)
    have hM5 : IV A B M5 := by rw [eq_4]; exact hM.w1 rfl (a1) (show (0 : Int32) ≤ (1 : Int32) ∧ (1 : Int32) ≤ (3 : Int32) from ⟨by decide, by decide⟩)
    refine ok_ite (fun q5 => ?_) (fun q5 => ?_)
    · have c6 : (M5.1 26 0 9) = (1 : Int32) := by rw [eq_4]; exact up_s
      exfalso
      grind
    · have c7 : (M5.1 26 0 9) = (1 : Int32) := by rw [eq_4]; exact up_s
      have pf8 : (0 : Int32) ≤ (0 : Int32) ∧ (0 : Int32) ≤ (65535 : Int32) := by
        exact ⟨by grind, by grind⟩
      exact ok_some ⟨hM5, pf8⟩
  · refine ok_gd ?_ (fun g9 => ?_)
    · have c10 : (0 : Int32) ≤ (M.1 26 0 5) ∧ (M.1 26 0 5) ≤ (40 : Int32) := hM.at1 26 0 5
      exact vp_of (by decide) (by grind) (show p0 < (40 : Int32) by grind)
    have g9 := vp_to (by decide) g9
    have g9 : (0 : Int32) ≤ p0 ∧ p0 < (40 : Int32) := g9
    refine ok_ite (fun q11 => ?_) (fun q11 => ?_)
    · unfold f_X7_letter_J38
      unfold f_X7_letter_J43
      refine ok_lq (fun M5 eq_12 => ?_)
      have hM5 : IV A B M5 := by rw [eq_12]; exact hM.w1 rfl (a1) (show (0 : Int32) ≤ (2 : Int32) ∧ (2 : Int32) ≤ (3 : Int32) from ⟨by decide, by decide⟩)
      refine ok_ite (fun q13 => ?_) (fun q13 => ?_)
      · have c14 : (M5.1 26 0 9) = (2 : Int32) := by rw [eq_12]; exact up_s
        exfalso
        grind
      · have c15 : (M5.1 26 0 9) = (2 : Int32) := by rw [eq_12]; exact up_s
        have pf16 : (0 : Int32) ≤ (0 : Int32) ∧ (0 : Int32) ≤ (65535 : Int32) := by
          exact ⟨by grind, by grind⟩
        exact ok_some ⟨hM5, pf16⟩
    · refine ok_gd ?_ (fun g17 => ?_)
      · have c18 : (0 : Int32) ≤ (M.1 26 0 5) ∧ (M.1 26 0 5) ≤ (40 : Int32) := hM.at1 26 0 5
        have c19 : (0 : Int32) ≤ (M.1 43 0 (p0).toNatClampNeg) ∧ (M.1 43 0 (p0).toNatClampNeg) ≤ (1 : Int32) := hM.at1 43 0 ((p0).toNatClampNeg)
        exact vp_of (by decide) (by grind) (show p0 < (41 : Int32) by grind)
      have g17 := vp_to (by decide) g17
      have g17 : (0 : Int32) ≤ p0 ∧ p0 < (41 : Int32) := g17
      have pf20 : ((-1) : Int32) ≤ ((M.1 29 0 (p0).toNatClampNeg) - (1 : Int32)) ∧ ((M.1 29 0 (p0).toNatClampNeg) - (1 : Int32)) ≤ (999 : Int32) := by
        have c21 : (0 : Int32) ≤ (M.1 29 0 (p0).toNatClampNeg) ∧ (M.1 29 0 (p0).toNatClampNeg) ≤ (24 : Int32) := hM.at1 29 0 ((p0).toNatClampNeg)
        have c22 : (0 : Int32) ≤ (M.1 26 0 5) ∧ (M.1 26 0 5) ≤ (40 : Int32) := hM.at1 26 0 5
        have c23 : (0 : Int32) ≤ (M.1 43 0 (p0).toNatClampNeg) ∧ (M.1 43 0 (p0).toNatClampNeg) ≤ (1 : Int32) := hM.at1 43 0 ((p0).toNatClampNeg)
        exact ⟨by grind, by grind⟩
      refine ok_b0 (s_X7_in p1 (0 : Int32) (show ((-999) : Int32) ≤ (0 : Int32) ∧ (0 : Int32) ≤ (1 : Int32) from ⟨by decide, by decide⟩) ((M.1 29 0 (p0).toNatClampNeg) - (1 : Int32)) pf20) (fun v14 w24 => ?_)
      have w25 : (0 : Int32) ≤ v14 ∧ v14 ≤ (1 : Int32) ∧ ((v14 = 0 ∧ (p1 < (0 : Int32) ∨ ((M.1 29 0 (p0).toNatClampNeg) - (1 : Int32)) < p1)) ∨ (v14 = 1 ∧ (0 : Int32) ≤ p1 ∧ p1 ≤ ((M.1 29 0 (p0).toNatClampNeg) - (1 : Int32)))) := w24
      refine ok_ite (fun q26 => ?_) (fun q26 => ?_)
      · unfold f_X7_letter_J38
        unfold f_X7_letter_J43
        refine ok_lq (fun M5 eq_27 => ?_)
        have hM5 : IV A B M5 := by rw [eq_27]; exact hM.w1 rfl (a1) (show (0 : Int32) ≤ (2 : Int32) ∧ (2 : Int32) ≤ (3 : Int32) from ⟨by decide, by decide⟩)
        refine ok_ite (fun q28 => ?_) (fun q28 => ?_)
        · have c29 : (M5.1 26 0 9) = (2 : Int32) := by rw [eq_27]; exact up_s
          exfalso
          grind
        · have c30 : (M5.1 26 0 9) = (2 : Int32) := by rw [eq_27]; exact up_s
          have pf31 : (0 : Int32) ≤ (0 : Int32) ∧ (0 : Int32) ≤ (65535 : Int32) := by
            exact ⟨by grind, by grind⟩
          exact ok_some ⟨hM5, pf31⟩
      · unfold f_X7_letter_J43
        refine ok_lq (fun M5 eq_32 => ?_)
        have hM5 : IV A B M5 := by rw [eq_32]; exact hM.w1 rfl (a1) (show (0 : Int32) ≤ (0 : Int32) ∧ (0 : Int32) ≤ (3 : Int32) from ⟨by decide, by decide⟩)
        refine ok_ite (fun q33 => ?_) (fun q33 => ?_)
        · have c34 : (M5.1 26 0 9) = (0 : Int32) := by rw [eq_32]; exact up_s
          refine ok_gd ?_ (fun g35 => ?_)
          · have c36 : (0 : Int32) ≤ (M.1 26 0 5) ∧ (M.1 26 0 5) ≤ (40 : Int32) := hM.at1 26 0 5
            have c37 : (0 : Int32) ≤ (M.1 43 0 (p0).toNatClampNeg) ∧ (M.1 43 0 (p0).toNatClampNeg) ≤ (1 : Int32) := hM.at1 43 0 ((p0).toNatClampNeg)
            have c38 : (0 : Int32) ≤ (M.1 29 0 (p0).toNatClampNeg) ∧ (M.1 29 0 (p0).toNatClampNeg) ≤ (24 : Int32) := hM.at1 29 0 ((p0).toNatClampNeg)
            exact vp_of (by decide) (by grind) (show (((24 : Int32) * p0) + p1) < (984 : Int32) by grind)
          have g35 := vp_to (by decide) g35
          have g35 : (0 : Int32) ≤ (((24 : Int32) * p0) + p1) ∧ (((24 : Int32) * p0) + p1) < (984 : Int32) := g35
          refine ok_gd ?_ (fun g39 => ?_)
          · have c40 : (0 : Int32) ≤ (M5.1 27 0 ((((24 : Int32) * p0) + p1)).toNatClampNeg) ∧ (M5.1 27 0 ((((24 : Int32) * p0) + p1)).toNatClampNeg) ≤ (65535 : Int32) := hM5.at1 27 0 (((((24 : Int32) * p0) + p1)).toNatClampNeg)
            have c41 : (M5.1 27 0 ((((24 : Int32) * p0) + p1)).toNatClampNeg) = (M.1 27 0 ((((24 : Int32) * p0) + p1)).toNatClampNeg) := by rw [eq_32]; exact up_k (by decide)
            have c42 : (0 : Int32) ≤ (M.1 26 0 5) ∧ (M.1 26 0 5) ≤ (40 : Int32) := hM.at1 26 0 5
            have c43 : (0 : Int32) ≤ (M.1 43 0 (p0).toNatClampNeg) ∧ (M.1 43 0 (p0).toNatClampNeg) ≤ (1 : Int32) := hM.at1 43 0 ((p0).toNatClampNeg)
            have c44 : (0 : Int32) ≤ (M.1 29 0 (p0).toNatClampNeg) ∧ (M.1 29 0 (p0).toNatClampNeg) ≤ (24 : Int32) := hM.at1 29 0 ((p0).toNatClampNeg)
            have c45 : (0 : Int32) ≤ (M.1 27 0 ((((24 : Int32) * p0) + p1)).toNatClampNeg) ∧ (M.1 27 0 ((((24 : Int32) * p0) + p1)).toNatClampNeg) ≤ (65535 : Int32) := hM.at1 27 0 (((((24 : Int32) * p0) + p1)).toNatClampNeg)
            exact okc_of (by grind) (by grind)
          have pf46 : (0 : Int32) ≤ (M5.1 27 0 ((((24 : Int32) * p0) + p1)).toNatClampNeg) ∧ (M5.1 27 0 ((((24 : Int32) * p0) + p1)).toNatClampNeg) ≤ (65535 : Int32) := by
            have c47 : (0 : Int32) ≤ (M5.1 27 0 ((((24 : Int32) * p0) + p1)).toNatClampNeg) ∧ (M5.1 27 0 ((((24 : Int32) * p0) + p1)).toNatClampNeg) ≤ (65535 : Int32) := hM5.at1 27 0 (((((24 : Int32) * p0) + p1)).toNatClampNeg)
            have c48 : (M5.1 27 0 ((((24 : Int32) * p0) + p1)).toNatClampNeg) = (M.1 27 0 ((((24 : Int32) * p0) + p1)).toNatClampNeg) := by rw [eq_32]; exact up_k (by decide)
            have c49 : (0 : Int32) ≤ (M.1 26 0 5) ∧ (M.1 26 0 5) ≤ (40 : Int32) := hM.at1 26 0 5
            have c50 : (0 : Int32) ≤ (M.1 43 0 (p0).toNatClampNeg) ∧ (M.1 43 0 (p0).toNatClampNeg) ≤ (1 : Int32) := hM.at1 43 0 ((p0).toNatClampNeg)
            have c51 : (0 : Int32) ≤ (M.1 29 0 (p0).toNatClampNeg) ∧ (M.1 29 0 (p0).toNatClampNeg) ≤ (24 : Int32) := hM.at1 29 0 ((p0).toNatClampNeg)
            have c52 : (0 : Int32) ≤ (M.1 27 0 ((((24 : Int32) * p0) + p1)).toNatClampNeg) ∧ (M.1 27 0 ((((24 : Int32) * p0) + p1)).toNatClampNeg) ≤ (65535 : Int32) := hM.at1 27 0 (((((24 : Int32) * p0) + p1)).toNatClampNeg)
            exact ⟨by grind, by grind⟩
          exact ok_some ⟨hM5, pf46⟩
        · have c53 : (M5.1 26 0 9) = (0 : Int32) := by rw [eq_32]; exact up_s
          exfalso
          grind
theorem s_X7_drop {A : Nat → Nat → Nat → Prop} {B : SS} (M : SS) (hM : IV A B M) (p0 : Int32) (a1 : A 26 0 38) (a2 : A 26 0 39) (a3 : A 26 0 40) (a4 : A 26 0 9) (a5 : A 42 0 (p0).toNatClampNeg) (a6 : A 43 0 (p0).toNatClampNeg) (a7 : ∀ p, A 44 0 p) (a8 : ∀ p, A 45 0 p) (a9 : ∀ p, A 53 0 p) (a10 : ∀ p, A 54 0 p) : ok (f_X7_drop M p0) (fun r => IV A B r.1 ∧ True) := by
  unfold f_X7_drop
  refine ok_b0 (s_X7_isWork M hM p0) (fun v1 w1 => ?_)
  have w2 : (0 : Int32) ≤ v1 ∧ v1 ≤ (1 : Int32) ∧ ((v1 = 0 ∧ (p0 < 0 ∨ (M.1 26 0 5) ≤ p0)) ∨ (v1 = 1 ∧ 0 ≤ p0 ∧ p0 < (M.1 26 0 5))) := w1
  refine ok_ite (fun q3 => ?_) (fun q3 => ?_)
  · refine ok_b1 (s_X7_fails M hM (1 : Int32) (show (1 : Int32) ≤ (1 : Int32) ∧ (1 : Int32) ≤ (3 : Int32) from ⟨by decide, by decide⟩) (a4)) (fun M18 v17 w4 => ?_)
    have hM18 : IV A B M18 := w4.1
    have w5 : (0 : Int32) ≤ v17 ∧ v17 ≤ (0 : Int32) := w4.2
    exact ok_some ⟨hM18, trivial⟩
  · refine ok_gd ?_ (fun g6 => ?_)
    · have c7 : (0 : Int32) ≤ (M.1 26 0 5) ∧ (M.1 26 0 5) ≤ (40 : Int32) := hM.at1 26 0 5
      exact vp_of (by decide) (by grind) (show p0 < (40 : Int32) by grind)
    have g6 := vp_to (by decide) g6
    have g6 : (0 : Int32) ≤ p0 ∧ p0 < (40 : Int32) := g6
    refine ok_ite (fun q8 => ?_) (fun q8 => ?_)
    · refine ok_b1 (s_X7_fails M hM (2 : Int32) (show (1 : Int32) ≤ (2 : Int32) ∧ (2 : Int32) ≤ (3 : Int32) from ⟨by decide, by decide⟩) (a4)) (fun M15 v14 w9 => ?_)
      have hM15 : IV A B M15 := w9.1
      have w10 : (0 : Int32) ≤ v14 ∧ v14 ≤ (0 : Int32) := w9.2
      exact ok_some ⟨hM15, trivial⟩
    · have pf11 : (0 : Int32) ≤ p0 ∧ p0 ≤ (39 : Int32) := by
        have c12 : (0 : Int32) ≤ (M.1 26 0 5) ∧ (M.1 26 0 5) ≤ (40 : Int32) := hM.at1 26 0 5
        have c13 : (0 : Int32) ≤ (M.1 43 0 (p0).toNatClampNeg) ∧ (M.1 43 0 (p0).toNatClampNeg) ≤ (1 : Int32) := hM.at1 43 0 ((p0).toNatClampNeg)
        exact ⟨by grind, by grind⟩
      refine ok_b1 (s_X7_drops M hM p0 pf11 (a1) (a2) (a3) (a5) (a6) (fun p => a7 p) (fun p => a8 p) (fun p => a9 p) (fun p => a10 p)) (fun M7 v6 w14 => ?_)
      have hM7 : IV A B M7 := w14.1
      have w15 : ((M7.1 43 0 (p0).toNatClampNeg) = 0) := w14.2
      refine ok_b0 (s_X7_bodyCount M7 hM7) (fun v9 w16 => ?_)
      refine ok_b1 (s_X7_tells M7 hM7 v9 (a4)) (fun M12 v11 w17 => ?_)
      have hM12 : IV A B M12 := w17.1
      exact ok_some ⟨hM12, trivial⟩
theorem s_X7_capacity {A : Nat → Nat → Nat → Prop} {B : SS} (M : SS) (hM : IV A B M) (p0 : Int32) (a1 : A 26 0 38) (a2 : A 26 0 39) (a3 : A 26 0 40) (a4 : A 26 0 6) (a5 : A 26 0 9) (a6 : ∀ p, A 42 0 p) (a7 : ∀ p, A 43 0 p) (a8 : ∀ p, A 44 0 p) (a9 : ∀ p, A 45 0 p) (a10 : ∀ p, A 53 0 p) (a11 : ∀ p, A 54 0 p) : ok (f_X7_capacity M p0) (fun r => IV A B r.1 ∧ True) := by
  unfold f_X7_capacity
  refine ok_b0 (s_X7_in p0 (1 : Int32) (show ((-999) : Int32) ≤ (1 : Int32) ∧ (1 : Int32) ≤ (1 : Int32) from ⟨by decide, by decide⟩) (40 : Int32) (show ((-1) : Int32) ≤ (40 : Int32) ∧ (40 : Int32) ≤ (999 : Int32) from ⟨by decide, by decide⟩)) (fun v1 w1 => ?_)
  have w2 : (0 : Int32) ≤ v1 ∧ v1 ≤ (1 : Int32) ∧ ((v1 = 0 ∧ (p0 < (1 : Int32) ∨ (40 : Int32) < p0)) ∨ (v1 = 1 ∧ (1 : Int32) ≤ p0 ∧ p0 ≤ (40 : Int32))) := w1
  refine ok_ite (fun q3 => ?_) (fun q3 => ?_)
  · refine ok_b1 (s_X7_fails M hM (1 : Int32) (show (1 : Int32) ≤ (1 : Int32) ∧ (1 : Int32) ≤ (3 : Int32) from ⟨by decide, by decide⟩) (a5)) (fun M12 v11 w4 => ?_)
    have hM12 : IV A B M12 := w4.1
    have w5 : (0 : Int32) ≤ v11 ∧ v11 ≤ (0 : Int32) := w4.2
    exact ok_some ⟨hM12, trivial⟩
  · refine ok_lq (fun M4 eq_6 => ?_)
    have pf7 : (0 : Int32) ≤ p0 ∧ p0 ≤ (40 : Int32) := by
      exact ⟨by grind, by grind⟩
    have hM4 : IV A B M4 := by rw [eq_6]; exact hM.w1 rfl (a4) pf7
    refine ok_b1 (s_X7_makesRoom M4 hM4 (a1) (a2) (a3) (fun p => a6 p) (fun p => a7 p) (fun p => a8 p) (fun p => a9 p) (fun p => a10 p) (fun p => a11 p)) (fun M6 v5 w8 => ?_)
    have hM6 : IV A B M6 := w8.1
    refine ok_b1 (s_X7_tells M6 hM6 v5 (a5)) (fun M9 v8 w9 => ?_)
    have hM9 : IV A B M9 := w9.1
    exact ok_some ⟨hM9, trivial⟩
theorem s_X7_bodies {A : Nat → Nat → Nat → Prop} {B : SS} (M : SS) (hM : IV A B M) (a1 : A 26 0 9) : ok (f_X7_bodies M) (fun r => IV A B r.1 ∧ True) := by
  unfold f_X7_bodies
  refine ok_b0 (s_X7_bodyCount M hM) (fun v1 w1 => ?_)
  refine ok_b1 (s_X7_tells M hM v1 (a1)) (fun M4 v3 w2 => ?_)
  have hM4 : IV A B M4 := w2.1
  exact ok_some ⟨hM4, trivial⟩
theorem s_X7_copyCount_L2 {A : Nat → Nat → Nat → Prop} {B : SS} (p0 : Int32) (ip0 : (0 : Int32) ≤ p0 ∧ p0 ≤ (9 : Int32)) (M : SS) (hM : IV A B M) : ∀ (n : Nat), ∀ (v3 : Int32) (k1 : (Int32 → Option (Int32))), (FU v3 3 n) → ((0 : Int32) ≤ v3 ∧ v3 ≤ (3 : Int32)) → (v3 = (3 : Int32) → ¬ (M.1 52 0 (((3 : Int32) * p0) + (2 : Int32)).toNatClampNeg) ≤ 0) → (∀ (k_0 : Int32), ((0 : Int32) ≤ k_0 ∧ k_0 ≤ (3 : Int32)) → ((M.1 52 0 (((3 : Int32) * p0) + (2 : Int32)).toNatClampNeg) ≤ 0 → k_0 ≤ (2 : Int32)) → ok (k1 k_0) (fun r => (0 : Int32) ≤ r ∧ r ≤ (3 : Int32) ∧ ((M.1 52 0 (((3 : Int32) * p0) + (2 : Int32)).toNatClampNeg) ≤ 0 → r ≤ (2 : Int32)))) → ok (f_X7_copyCount_L2 p0 M n v3 k1) (fun r => (0 : Int32) ≤ r ∧ r ≤ (3 : Int32) ∧ ((M.1 52 0 (((3 : Int32) * p0) + (2 : Int32)).toNatClampNeg) ≤ 0 → r ≤ (2 : Int32))) := by
  intro n
  induction n with
  | zero =>
    intro v3 k1 hF iv3 x0 hk
    exact (FU.stop hF (show v3 ≤ (3 : Int32) by grind)).elim
  | succ n ih =>
    intro v3 k1 hF iv3 x0 hk
    rw [f_X7_copyCount_L2]
    refine ok_ite (fun q1 => ?_) (fun q1 => ?_)
    · have pf2 : (0 : Int32) ≤ v3 ∧ v3 ≤ (3 : Int32) := by
        have c3 : (0 : Int32) ≤ (M.1 52 0 ((((3 : Int32) * p0) + (2 : Int32))).toNatClampNeg) ∧ (M.1 52 0 ((((3 : Int32) * p0) + (2 : Int32))).toNatClampNeg) ≤ (40 : Int32) := hM.at1 52 0 (((((3 : Int32) * p0) + (2 : Int32))).toNatClampNeg)
        exact ⟨by grind, by grind⟩
      have pf4 : (M.1 52 0 (((3 : Int32) * p0) + (2 : Int32)).toNatClampNeg) ≤ 0 → v3 ≤ (2 : Int32) := by
        have c5 : (0 : Int32) ≤ (M.1 52 0 ((((3 : Int32) * p0) + (2 : Int32))).toNatClampNeg) ∧ (M.1 52 0 ((((3 : Int32) * p0) + (2 : Int32))).toNatClampNeg) ≤ (40 : Int32) := hM.at1 52 0 (((((3 : Int32) * p0) + (2 : Int32))).toNatClampNeg)
        grind
      exact hk v3 pf2 pf4
    · refine ok_gd ?_ (fun g6 => ?_)
      · have c7 : (0 : Int32) ≤ (M.1 52 0 ((((3 : Int32) * p0) + (2 : Int32))).toNatClampNeg) ∧ (M.1 52 0 ((((3 : Int32) * p0) + (2 : Int32))).toNatClampNeg) ≤ (40 : Int32) := hM.at1 52 0 (((((3 : Int32) * p0) + (2 : Int32))).toNatClampNeg)
        exact vp_of (by decide) (by grind) (show (((3 : Int32) * p0) + v3) < (30 : Int32) by grind)
      have g6 := vp_to (by decide) g6
      have g6 : (0 : Int32) ≤ (((3 : Int32) * p0) + v3) ∧ (((3 : Int32) * p0) + v3) < (30 : Int32) := g6
      refine ok_ite (fun q8 => ?_) (fun q8 => ?_)
      · have pf9 : (0 : Int32) ≤ v3 ∧ v3 ≤ (3 : Int32) := by
          have c10 : (0 : Int32) ≤ (M.1 52 0 ((((3 : Int32) * p0) + (2 : Int32))).toNatClampNeg) ∧ (M.1 52 0 ((((3 : Int32) * p0) + (2 : Int32))).toNatClampNeg) ≤ (40 : Int32) := hM.at1 52 0 (((((3 : Int32) * p0) + (2 : Int32))).toNatClampNeg)
          have c11 : (0 : Int32) ≤ (M.1 52 0 ((((3 : Int32) * p0) + v3)).toNatClampNeg) ∧ (M.1 52 0 ((((3 : Int32) * p0) + v3)).toNatClampNeg) ≤ (40 : Int32) := hM.at1 52 0 (((((3 : Int32) * p0) + v3)).toNatClampNeg)
          exact ⟨by grind, by grind⟩
        have pf12 : (M.1 52 0 (((3 : Int32) * p0) + (2 : Int32)).toNatClampNeg) ≤ 0 → v3 ≤ (2 : Int32) := by
          have c13 : (0 : Int32) ≤ (M.1 52 0 ((((3 : Int32) * p0) + (2 : Int32))).toNatClampNeg) ∧ (M.1 52 0 ((((3 : Int32) * p0) + (2 : Int32))).toNatClampNeg) ≤ (40 : Int32) := hM.at1 52 0 (((((3 : Int32) * p0) + (2 : Int32))).toNatClampNeg)
          have c14 : (0 : Int32) ≤ (M.1 52 0 ((((3 : Int32) * p0) + v3)).toNatClampNeg) ∧ (M.1 52 0 ((((3 : Int32) * p0) + v3)).toNatClampNeg) ≤ (40 : Int32) := hM.at1 52 0 (((((3 : Int32) * p0) + v3)).toNatClampNeg)
          grind
        exact hk v3 pf9 pf12
      · have pf15 : FU (v3 + (1 : Int32)) 3 n := by
          have c16 : (0 : Int32) ≤ (M.1 52 0 ((((3 : Int32) * p0) + (2 : Int32))).toNatClampNeg) ∧ (M.1 52 0 ((((3 : Int32) * p0) + (2 : Int32))).toNatClampNeg) ≤ (40 : Int32) := hM.at1 52 0 (((((3 : Int32) * p0) + (2 : Int32))).toNatClampNeg)
          have c17 : (0 : Int32) ≤ (M.1 52 0 ((((3 : Int32) * p0) + v3)).toNatClampNeg) ∧ (M.1 52 0 ((((3 : Int32) * p0) + v3)).toNatClampNeg) ≤ (40 : Int32) := hM.at1 52 0 (((((3 : Int32) * p0) + v3)).toNatClampNeg)
          exact FU.step hF (by grind)
        have pf18 : (0 : Int32) ≤ (v3 + (1 : Int32)) ∧ (v3 + (1 : Int32)) ≤ (3 : Int32) := by
          have c19 : (0 : Int32) ≤ (M.1 52 0 ((((3 : Int32) * p0) + (2 : Int32))).toNatClampNeg) ∧ (M.1 52 0 ((((3 : Int32) * p0) + (2 : Int32))).toNatClampNeg) ≤ (40 : Int32) := hM.at1 52 0 (((((3 : Int32) * p0) + (2 : Int32))).toNatClampNeg)
          have c20 : (0 : Int32) ≤ (M.1 52 0 ((((3 : Int32) * p0) + v3)).toNatClampNeg) ∧ (M.1 52 0 ((((3 : Int32) * p0) + v3)).toNatClampNeg) ≤ (40 : Int32) := hM.at1 52 0 (((((3 : Int32) * p0) + v3)).toNatClampNeg)
          exact ⟨by grind, by grind⟩
        have pf21 : (v3 + (1 : Int32)) = (3 : Int32) → ¬ (M.1 52 0 (((3 : Int32) * p0) + (2 : Int32)).toNatClampNeg) ≤ 0 := by
          have c22 : (0 : Int32) ≤ (M.1 52 0 ((((3 : Int32) * p0) + (2 : Int32))).toNatClampNeg) ∧ (M.1 52 0 ((((3 : Int32) * p0) + (2 : Int32))).toNatClampNeg) ≤ (40 : Int32) := hM.at1 52 0 (((((3 : Int32) * p0) + (2 : Int32))).toNatClampNeg)
          have c23 : (0 : Int32) ≤ (M.1 52 0 ((((3 : Int32) * p0) + v3)).toNatClampNeg) ∧ (M.1 52 0 ((((3 : Int32) * p0) + v3)).toNatClampNeg) ≤ (40 : Int32) := hM.at1 52 0 (((((3 : Int32) * p0) + v3)).toNatClampNeg)
          grind
        exact ih (v3 + (1 : Int32)) k1 pf15 pf18 pf21 hk
theorem s_X7_copyCount {A : Nat → Nat → Nat → Prop} {B : SS} (M : SS) (hM : IV A B M) (p0 : Int32) (ip0 : (0 : Int32) ≤ p0 ∧ p0 ≤ (9 : Int32)) : ok (f_X7_copyCount M p0) (fun r => (0 : Int32) ≤ r ∧ r ≤ (3 : Int32) ∧ ((M.1 52 0 (((3 : Int32) * p0) + (2 : Int32)).toNatClampNeg) ≤ 0 → r ≤ (2 : Int32))) := by
  unfold f_X7_copyCount
  have pf1 : (0 : Int32) ≤ p0 ∧ p0 ≤ (9 : Int32) := by
    exact ⟨by grind, by grind⟩
  have pf2 : FU (0 : Int32) 3 1000 := by
    exact FU.start (by grind) (by decide)
  have pf3 : (0 : Int32) = (3 : Int32) → ¬ (M.1 52 0 (((3 : Int32) * p0) + (2 : Int32)).toNatClampNeg) ≤ 0 := by
    have c4 : (0 : Int32) ≤ (M.1 52 0 ((((3 : Int32) * p0) + (2 : Int32))).toNatClampNeg) ∧ (M.1 52 0 ((((3 : Int32) * p0) + (2 : Int32))).toNatClampNeg) ≤ (40 : Int32) := hM.at1 52 0 (((((3 : Int32) * p0) + (2 : Int32))).toNatClampNeg)
    grind
  refine s_X7_copyCount_L2 p0 pf1 M hM 1000 (0 : Int32) _ pf2 (show (0 : Int32) ≤ (0 : Int32) ∧ (0 : Int32) ≤ (3 : Int32) from ⟨by decide, by decide⟩) pf3 (fun v2 wv2 ek => ?_)
  have wv2 : (0 : Int32) ≤ v2 ∧ v2 ≤ (3 : Int32) := wv2
  have eq_5 : (M.1 52 0 (((3 : Int32) * p0) + (2 : Int32)).toNatClampNeg) ≤ 0 → v2 ≤ (2 : Int32) := ek
  have pf6 : (0 : Int32) ≤ v2 ∧ v2 ≤ (3 : Int32) ∧ ((M.1 52 0 (((3 : Int32) * p0) + (2 : Int32)).toNatClampNeg) ≤ 0 → v2 ≤ (2 : Int32)) := by
    have c7 : (0 : Int32) ≤ (M.1 52 0 ((((3 : Int32) * p0) + (2 : Int32))).toNatClampNeg) ∧ (M.1 52 0 ((((3 : Int32) * p0) + (2 : Int32))).toNatClampNeg) ≤ (40 : Int32) := hM.at1 52 0 (((((3 : Int32) * p0) + (2 : Int32))).toNatClampNeg)
    grind
  exact ok_some pf6
theorem s_X7_hasCopy_L5 {A : Nat → Nat → Nat → Prop} {B : SS} (p0 : Int32) (ip0 : (0 : Int32) ≤ p0 ∧ p0 ≤ (9 : Int32)) (M : SS) (hM : IV A B M) (p1 : Int32) (ip1 : (0 : Int32) ≤ p1 ∧ p1 ≤ (39 : Int32)) : ∀ (n : Nat), ∀ (v3 : Int32) (v4 : Int32) (k1 : (Int32 → Option (Int32))), (FU v3 3 n) → ((0 : Int32) ≤ v3 ∧ v3 ≤ (3 : Int32)) → ((0 : Int32) ≤ v4 ∧ v4 ≤ (1 : Int32)) → (∀ (k_0 : Int32), ((0 : Int32) ≤ k_0 ∧ k_0 ≤ (1 : Int32)) → ok (k1 k_0) (fun r => (0 : Int32) ≤ r ∧ r ≤ (1 : Int32))) → ok (f_X7_hasCopy_L5 p0 M p1 n v3 v4 k1) (fun r => (0 : Int32) ≤ r ∧ r ≤ (1 : Int32)) := by
  intro n
  induction n with
  | zero =>
    intro v3 v4 k1 hF iv3 iv4 hk
    exact (FU.stop hF (show v3 ≤ (3 : Int32) by grind)).elim
  | succ n ih =>
    intro v3 v4 k1 hF iv3 iv4 hk
    rw [f_X7_hasCopy_L5]
    refine ok_ite (fun q1 => ?_) (fun q1 => ?_)
    · have pf2 : (0 : Int32) ≤ v4 ∧ v4 ≤ (1 : Int32) := by
        exact ⟨by grind, by grind⟩
      exact hk v4 pf2
    · refine ok_ite (fun q3 => ?_) (fun q3 => ?_)
      · refine ok_gd ?_ (fun g4 => ?_)
        · exact vp_of (by decide) (by grind) (show (((3 : Int32) * p0) + v3) < (30 : Int32) by grind)
        have g4 := vp_to (by decide) g4
        have g4 : (0 : Int32) ≤ (((3 : Int32) * p0) + v3) ∧ (((3 : Int32) * p0) + v3) < (30 : Int32) := g4
        refine ok_ite (fun q5 => ?_) (fun q5 => ?_)
        · have pf6 : FU (v3 + (1 : Int32)) 3 n := by
            have c7 : (0 : Int32) ≤ (M.1 52 0 ((((3 : Int32) * p0) + v3)).toNatClampNeg) ∧ (M.1 52 0 ((((3 : Int32) * p0) + v3)).toNatClampNeg) ≤ (40 : Int32) := hM.at1 52 0 (((((3 : Int32) * p0) + v3)).toNatClampNeg)
            exact FU.step hF (by grind)
          have pf8 : (0 : Int32) ≤ (v3 + (1 : Int32)) ∧ (v3 + (1 : Int32)) ≤ (3 : Int32) := by
            have c9 : (0 : Int32) ≤ (M.1 52 0 ((((3 : Int32) * p0) + v3)).toNatClampNeg) ∧ (M.1 52 0 ((((3 : Int32) * p0) + v3)).toNatClampNeg) ≤ (40 : Int32) := hM.at1 52 0 (((((3 : Int32) * p0) + v3)).toNatClampNeg)
            exact ⟨by grind, by grind⟩
          exact ih (v3 + (1 : Int32)) (1 : Int32) k1 pf6 pf8 (show (0 : Int32) ≤ (1 : Int32) ∧ (1 : Int32) ≤ (1 : Int32) from ⟨by decide, by decide⟩) hk
        · have pf10 : FU (v3 + (1 : Int32)) 3 n := by
            have c11 : (0 : Int32) ≤ (M.1 52 0 ((((3 : Int32) * p0) + v3)).toNatClampNeg) ∧ (M.1 52 0 ((((3 : Int32) * p0) + v3)).toNatClampNeg) ≤ (40 : Int32) := hM.at1 52 0 (((((3 : Int32) * p0) + v3)).toNatClampNeg)
            exact FU.step hF (by grind)
          have pf12 : (0 : Int32) ≤ (v3 + (1 : Int32)) ∧ (v3 + (1 : Int32)) ≤ (3 : Int32) := by
            have c13 : (0 : Int32) ≤ (M.1 52 0 ((((3 : Int32) * p0) + v3)).toNatClampNeg) ∧ (M.1 52 0 ((((3 : Int32) * p0) + v3)).toNatClampNeg) ≤ (40 : Int32) := hM.at1 52 0 (((((3 : Int32) * p0) + v3)).toNatClampNeg)
            exact ⟨by grind, by grind⟩
          exact ih (v3 + (1 : Int32)) (0 : Int32) k1 pf10 pf12 (show (0 : Int32) ≤ (0 : Int32) ∧ (0 : Int32) ≤ (1 : Int32) from ⟨by decide, by decide⟩) hk
      · have pf14 : FU (v3 + (1 : Int32)) 3 n := by
          exact FU.step hF (by grind)
        have pf15 : (0 : Int32) ≤ (v3 + (1 : Int32)) ∧ (v3 + (1 : Int32)) ≤ (3 : Int32) := by
          exact ⟨by grind, by grind⟩
        exact ih (v3 + (1 : Int32)) (1 : Int32) k1 pf14 pf15 (show (0 : Int32) ≤ (1 : Int32) ∧ (1 : Int32) ≤ (1 : Int32) from ⟨by decide, by decide⟩) hk
theorem s_X7_hasCopy {A : Nat → Nat → Nat → Prop} {B : SS} (M : SS) (hM : IV A B M) (p0 : Int32) (ip0 : (0 : Int32) ≤ p0 ∧ p0 ≤ (9 : Int32)) (p1 : Int32) (ip1 : (0 : Int32) ≤ p1 ∧ p1 ≤ (39 : Int32)) : ok (f_X7_hasCopy M p0 p1) (fun r => (0 : Int32) ≤ r ∧ r ≤ (1 : Int32)) := by
  unfold f_X7_hasCopy
  have pf1 : (0 : Int32) ≤ p0 ∧ p0 ≤ (9 : Int32) := by
    exact ⟨by grind, by grind⟩
  have pf2 : (0 : Int32) ≤ p1 ∧ p1 ≤ (39 : Int32) := by
    exact ⟨by grind, by grind⟩
  have pf3 : FU (0 : Int32) 3 1000 := by
    exact FU.start (by grind) (by decide)
  refine s_X7_hasCopy_L5 p0 pf1 M hM p1 pf2 1000 (0 : Int32) (0 : Int32) _ pf3 (show (0 : Int32) ≤ (0 : Int32) ∧ (0 : Int32) ≤ (3 : Int32) from ⟨by decide, by decide⟩) (show (0 : Int32) ≤ (0 : Int32) ∧ (0 : Int32) ≤ (1 : Int32) from ⟨by decide, by decide⟩) (fun v2 wv2 => ?_)
  have wv2 : (0 : Int32) ≤ v2 ∧ v2 ≤ (1 : Int32) := wv2
  refine ok_gd ?_ (fun g4 => ?_)
  · exact okz_of (by grind) (by grind)
  have pf5 : (0 : Int32) ≤ v2 ∧ v2 ≤ (1 : Int32) := by
    exact ⟨by grind, by grind⟩
  exact ok_some pf5
theorem s_X7_read_L106 {A : Nat → Nat → Nat → Prop} {B : SS} (v12 : Int32) (iv12 : (0 : Int32) ≤ v12 ∧ v12 ≤ (27 : Int32)) (a1 : ∀ p, A 52 0 p) : ∀ (n : Nat), ∀ (v23 : Int32) (M24 : SS) (k21 : (SS → Option (SS × Int32))), (FU v23 2 n) → ((0 : Int32) ≤ v23 ∧ v23 ≤ (2 : Int32)) → (IV A B M24) → (∀ (k_0 : SS), (IV A B k_0) → ok (k21 k_0) (fun r => IV A B r.1 ∧ True)) → ok (f_X7_read_L106 v12 n v23 M24 k21) (fun r => IV A B r.1 ∧ True) := by
  intro n
  induction n with
  | zero =>
    intro v23 M24 k21 hF iv23 hM24 hk
    exact (FU.stop hF (show v23 ≤ (2 : Int32) by grind)).elim
  | succ n ih =>
    intro v23 M24 k21 hF iv23 hM24 hk
    rw [f_X7_read_L106]
    refine ok_ite (fun q1 => ?_) (fun q1 => ?_)
    · exact hk M24 hM24
    · refine ok_gd ?_ (fun g2 => ?_)
      · exact vp_of (by decide) (by grind) (show ((v12 + v23) + (1 : Int32)) < (30 : Int32) by grind)
      have g2 := vp_to (by decide) g2
      have g2 : (0 : Int32) ≤ ((v12 + v23) + (1 : Int32)) ∧ ((v12 + v23) + (1 : Int32)) < (30 : Int32) := g2
      refine ok_gd ?_ (fun g3 => ?_)
      · exact vp_of (by decide) (by grind) (show (v12 + v23) < (30 : Int32) by grind)
      have g3 := vp_to (by decide) g3
      have g3 : (0 : Int32) ≤ (v12 + v23) ∧ (v12 + v23) < (30 : Int32) := g3
      refine ok_lq (fun M39 eq_4 => ?_)
      have pf5 : (0 : Int32) ≤ (M24.1 52 0 (((v12 + v23) + (1 : Int32))).toNatClampNeg) ∧ (M24.1 52 0 (((v12 + v23) + (1 : Int32))).toNatClampNeg) ≤ (40 : Int32) := by
        have c6 : (0 : Int32) ≤ (M24.1 52 0 (((v12 + v23) + (1 : Int32))).toNatClampNeg) ∧ (M24.1 52 0 (((v12 + v23) + (1 : Int32))).toNatClampNeg) ≤ (40 : Int32) := hM24.at1 52 0 ((((v12 + v23) + (1 : Int32))).toNatClampNeg)
        exact ⟨by grind, by grind⟩
      have hM39 : IV A B M39 := by rw [eq_4]; exact hM24.w1 rfl (a1 (((v12 + v23)).toNatClampNeg)) pf5
      have pf7 : FU (v23 + (1 : Int32)) 2 n := by
        exact FU.step hF (by grind)
      have pf8 : (0 : Int32) ≤ (v23 + (1 : Int32)) ∧ (v23 + (1 : Int32)) ≤ (2 : Int32) := by
        exact ⟨by grind, by grind⟩
      exact ih (v23 + (1 : Int32)) M39 k21 pf7 pf8 hM39 hk
theorem s_X7_read_L65 {A : Nat → Nat → Nat → Prop} {B : SS} (v13 : Int32) (iv13 : (0 : Int32) ≤ v13 ∧ v13 ≤ (3 : Int32)) (v12 : Int32) (iv12 : (0 : Int32) ≤ v12 ∧ v12 ≤ (27 : Int32)) (M : SS) (hM : IV A B M) (p1 : Int32) (ip1 : (0 : Int32) ≤ p1 ∧ p1 ≤ (39 : Int32)) : ∀ (n : Nat), ∀ (v19 : Int32) (v20 : Int32) (k17 : (Int32 → Option (SS × Int32))), (FU v19 3 n) → ((0 : Int32) ≤ v19 ∧ v19 ≤ (3 : Int32)) → ((0 : Int32) ≤ v20 ∧ v20 ≤ (2 : Int32)) → (∀ (k_0 : Int32), ((0 : Int32) ≤ k_0 ∧ k_0 ≤ (2 : Int32)) → ok (k17 k_0) (fun r => IV A B r.1 ∧ True)) → ok (f_X7_read_L65 v13 v12 M p1 n v19 v20 k17) (fun r => IV A B r.1 ∧ True) := by
  intro n
  induction n with
  | zero =>
    intro v19 v20 k17 hF iv19 iv20 hk
    exact (FU.stop hF (show v19 ≤ (3 : Int32) by grind)).elim
  | succ n ih =>
    intro v19 v20 k17 hF iv19 iv20 hk
    rw [f_X7_read_L65]
    refine ok_ite (fun q1 => ?_) (fun q1 => ?_)
    · have pf2 : (0 : Int32) ≤ v20 ∧ v20 ≤ (2 : Int32) := by
        exact ⟨by grind, by grind⟩
      exact hk v20 pf2
    · refine ok_gd ?_ (fun g3 => ?_)
      · exact vp_of (by decide) (by grind) (show (v12 + v19) < (30 : Int32) by grind)
      have g3 := vp_to (by decide) g3
      have g3 : (0 : Int32) ≤ (v12 + v19) ∧ (v12 + v19) < (30 : Int32) := g3
      refine ok_ite (fun q4 => ?_) (fun q4 => ?_)
      · have pf5 : FU (v19 + (1 : Int32)) 3 n := by
          have c6 : (0 : Int32) ≤ (M.1 52 0 ((v12 + v19)).toNatClampNeg) ∧ (M.1 52 0 ((v12 + v19)).toNatClampNeg) ≤ (40 : Int32) := hM.at1 52 0 (((v12 + v19)).toNatClampNeg)
          exact FU.step hF (by grind)
        have pf7 : (0 : Int32) ≤ (v19 + (1 : Int32)) ∧ (v19 + (1 : Int32)) ≤ (3 : Int32) := by
          have c8 : (0 : Int32) ≤ (M.1 52 0 ((v12 + v19)).toNatClampNeg) ∧ (M.1 52 0 ((v12 + v19)).toNatClampNeg) ≤ (40 : Int32) := hM.at1 52 0 (((v12 + v19)).toNatClampNeg)
          exact ⟨by grind, by grind⟩
        have pf9 : (0 : Int32) ≤ v19 ∧ v19 ≤ (2 : Int32) := by
          have c10 : (0 : Int32) ≤ (M.1 52 0 ((v12 + v19)).toNatClampNeg) ∧ (M.1 52 0 ((v12 + v19)).toNatClampNeg) ≤ (40 : Int32) := hM.at1 52 0 (((v12 + v19)).toNatClampNeg)
          exact ⟨by grind, by grind⟩
        exact ih (v19 + (1 : Int32)) v19 k17 pf5 pf7 pf9 hk
      · have pf11 : FU (v19 + (1 : Int32)) 3 n := by
          have c12 : (0 : Int32) ≤ (M.1 52 0 ((v12 + v19)).toNatClampNeg) ∧ (M.1 52 0 ((v12 + v19)).toNatClampNeg) ≤ (40 : Int32) := hM.at1 52 0 (((v12 + v19)).toNatClampNeg)
          exact FU.step hF (by grind)
        have pf13 : (0 : Int32) ≤ (v19 + (1 : Int32)) ∧ (v19 + (1 : Int32)) ≤ (3 : Int32) := by
          have c14 : (0 : Int32) ≤ (M.1 52 0 ((v12 + v19)).toNatClampNeg) ∧ (M.1 52 0 ((v12 + v19)).toNatClampNeg) ≤ (40 : Int32) := hM.at1 52 0 (((v12 + v19)).toNatClampNeg)
          exact ⟨by grind, by grind⟩
        have pf15 : (0 : Int32) ≤ v20 ∧ v20 ≤ (2 : Int32) := by
          exact ⟨by grind, by grind⟩
        exact ih (v19 + (1 : Int32)) v20 k17 pf11 pf13 pf15 hk
theorem s_X7_read {A : Nat → Nat → Nat → Prop} {B : SS} (M : SS) (hM : IV A B M) (p0 : Int32) (p1 : Int32) (a1 : A 26 0 9) (a2 : ∀ p, A 52 0 p) : ok (f_X7_read M p0 p1) (fun r => IV A B r.1 ∧ True) := by
  unfold f_X7_read
  refine ok_b0 (s_X7_isMember M hM p0) (fun v1 w1 => ?_)
  have w2 : (0 : Int32) ≤ v1 ∧ v1 ≤ (1 : Int32) ∧ ((v1 = 0 ∧ (p0 < 0 ∨ (M.1 26 0 4) ≤ p0)) ∨ (v1 = 1 ∧ 0 ≤ p0 ∧ p0 < (M.1 26 0 4))) := w1
  refine ok_ite (fun q3 => ?_) (fun q3 => ?_)
  · refine ok_b1 (s_X7_fails M hM (1 : Int32) (show (1 : Int32) ≤ (1 : Int32) ∧ (1 : Int32) ≤ (3 : Int32) from ⟨by decide, by decide⟩) (a1)) (fun M5 v4 w4 => ?_)
    have hM5 : IV A B M5 := w4.1
    have w5 : (0 : Int32) ≤ v4 ∧ v4 ≤ (0 : Int32) := w4.2
    exact ok_some ⟨hM5, trivial⟩
  · refine ok_b0 (s_X7_isWork M hM p1) (fun v7 w6 => ?_)
    have w7 : (0 : Int32) ≤ v7 ∧ v7 ≤ (1 : Int32) ∧ ((v7 = 0 ∧ (p1 < 0 ∨ (M.1 26 0 5) ≤ p1)) ∨ (v7 = 1 ∧ 0 ≤ p1 ∧ p1 < (M.1 26 0 5))) := w6
    refine ok_ite (fun q8 => ?_) (fun q8 => ?_)
    · refine ok_b1 (s_X7_fails M hM (1 : Int32) (show (1 : Int32) ≤ (1 : Int32) ∧ (1 : Int32) ≤ (3 : Int32) from ⟨by decide, by decide⟩) (a1)) (fun M48 v47 w9 => ?_)
      have hM48 : IV A B M48 := w9.1
      have w10 : (0 : Int32) ≤ v47 ∧ v47 ≤ (0 : Int32) := w9.2
      exact ok_some ⟨hM48, trivial⟩
    · refine ok_gd ?_ (fun g11 => ?_)
      · have c12 : (0 : Int32) ≤ (M.1 26 0 5) ∧ (M.1 26 0 5) ≤ (40 : Int32) := hM.at1 26 0 5
        exact vp_of (by decide) (by grind) (show p1 < (40 : Int32) by grind)
      have g11 := vp_to (by decide) g11
      have g11 : (0 : Int32) ≤ p1 ∧ p1 < (40 : Int32) := g11
      refine ok_ite (fun q13 => ?_) (fun q13 => ?_)
      · refine ok_b1 (s_X7_fails M hM (2 : Int32) (show (1 : Int32) ≤ (2 : Int32) ∧ (2 : Int32) ≤ (3 : Int32) from ⟨by decide, by decide⟩) (a1)) (fun M45 v44 w14 => ?_)
        have hM45 : IV A B M45 := w14.1
        have w15 : (0 : Int32) ≤ v44 ∧ v44 ≤ (0 : Int32) := w14.2
        exact ok_some ⟨hM45, trivial⟩
      · refine ok_lq (fun v12 eq_16 => ?_)
        have pf17 : (0 : Int32) ≤ p0 ∧ p0 ≤ (9 : Int32) := by
          have c18 : (0 : Int32) ≤ (M.1 26 0 4) ∧ (M.1 26 0 4) ≤ (10 : Int32) := hM.at1 26 0 4
          exact ⟨by grind, by grind⟩
        refine ok_b0 (s_X7_copyCount M hM p0 pf17) (fun v13 w19 => ?_)
        have w20 : (0 : Int32) ≤ v13 ∧ v13 ≤ (3 : Int32) ∧ ((M.1 52 0 (((3 : Int32) * p0) + (2 : Int32)).toNatClampNeg) ≤ 0 → v13 ≤ (2 : Int32)) := w19
        refine ok_ite (fun q21 => ?_) (fun q21 => ?_)
        · unfold f_X7_read_J60
          have pf22 : (0 : Int32) ≤ v13 ∧ v13 ≤ (3 : Int32) := by
            have c23 : (0 : Int32) ≤ (M.1 52 0 ((((3 : Int32) * p0) + (2 : Int32))).toNatClampNeg) ∧ (M.1 52 0 ((((3 : Int32) * p0) + (2 : Int32))).toNatClampNeg) ≤ (40 : Int32) := hM.at1 52 0 (((((3 : Int32) * p0) + (2 : Int32))).toNatClampNeg)
            have c24 : (0 : Int32) ≤ (M.1 26 0 4) ∧ (M.1 26 0 4) ≤ (10 : Int32) := hM.at1 26 0 4
            exact ⟨by grind, by grind⟩
          have pf25 : (0 : Int32) ≤ v12 ∧ v12 ≤ (27 : Int32) := by
            have c26 : (0 : Int32) ≤ (M.1 26 0 4) ∧ (M.1 26 0 4) ≤ (10 : Int32) := hM.at1 26 0 4
            have c27 : (0 : Int32) ≤ (M.1 52 0 ((((3 : Int32) * p0) + (2 : Int32))).toNatClampNeg) ∧ (M.1 52 0 ((((3 : Int32) * p0) + (2 : Int32))).toNatClampNeg) ≤ (40 : Int32) := hM.at1 52 0 (((((3 : Int32) * p0) + (2 : Int32))).toNatClampNeg)
            exact ⟨by grind, by grind⟩
          have pf28 : (0 : Int32) ≤ p1 ∧ p1 ≤ (39 : Int32) := by
            have c29 : (0 : Int32) ≤ (M.1 26 0 5) ∧ (M.1 26 0 5) ≤ (40 : Int32) := hM.at1 26 0 5
            have c30 : (0 : Int32) ≤ (M.1 43 0 (p1).toNatClampNeg) ∧ (M.1 43 0 (p1).toNatClampNeg) ≤ (1 : Int32) := hM.at1 43 0 ((p1).toNatClampNeg)
            exact ⟨by grind, by grind⟩
          have pf31 : FU (0 : Int32) 3 1000 := by
            exact FU.start (by grind) (by decide)
          refine s_X7_read_L65 v13 pf22 v12 pf25 M hM p1 pf28 1000 (0 : Int32) (0 : Int32) _ pf31 (show (0 : Int32) ≤ (0 : Int32) ∧ (0 : Int32) ≤ (3 : Int32) from ⟨by decide, by decide⟩) (show (0 : Int32) ≤ (0 : Int32) ∧ (0 : Int32) ≤ (2 : Int32) from ⟨by decide, by decide⟩) (fun v18 wv18 => ?_)
          have wv18 : (0 : Int32) ≤ v18 ∧ v18 ≤ (2 : Int32) := wv18
          have pf32 : (0 : Int32) ≤ v12 ∧ v12 ≤ (27 : Int32) := by
            have c33 : (0 : Int32) ≤ (M.1 26 0 4) ∧ (M.1 26 0 4) ≤ (10 : Int32) := hM.at1 26 0 4
            have c34 : (0 : Int32) ≤ (M.1 52 0 ((((3 : Int32) * p0) + (2 : Int32))).toNatClampNeg) ∧ (M.1 52 0 ((((3 : Int32) * p0) + (2 : Int32))).toNatClampNeg) ≤ (40 : Int32) := hM.at1 52 0 (((((3 : Int32) * p0) + (2 : Int32))).toNatClampNeg)
            exact ⟨by grind, by grind⟩
          have pf35 : FU v18 2 1000 := by
            exact FU.start (by grind) (by decide)
          have pf36 : (0 : Int32) ≤ v18 ∧ v18 ≤ (2 : Int32) := by
            exact ⟨by grind, by grind⟩
          refine s_X7_read_L106 v12 pf32 (fun p => a2 p) 1000 v18 M _ pf35 pf36 hM (fun M22 hM22 => ?_)
          refine ok_gd ?_ (fun g37 => ?_)
          · have c38 : (0 : Int32) ≤ (M.1 26 0 4) ∧ (M.1 26 0 4) ≤ (10 : Int32) := hM.at1 26 0 4
            have c39 : (0 : Int32) ≤ (M.1 52 0 ((((3 : Int32) * p0) + (2 : Int32))).toNatClampNeg) ∧ (M.1 52 0 ((((3 : Int32) * p0) + (2 : Int32))).toNatClampNeg) ≤ (40 : Int32) := hM.at1 52 0 (((((3 : Int32) * p0) + (2 : Int32))).toNatClampNeg)
            exact vp_of (by decide) (by grind) (show ((v12 + (3 : Int32)) - (1 : Int32)) < (30 : Int32) by grind)
          have g37 := vp_to (by decide) g37
          have g37 : (0 : Int32) ≤ ((v12 + (3 : Int32)) - (1 : Int32)) ∧ ((v12 + (3 : Int32)) - (1 : Int32)) < (30 : Int32) := g37
          refine ok_lq (fun M26 eq_40 => ?_)
          have hM26 : IV A B M26 := by rw [eq_40]; exact hM22.w1 rfl (a2 ((((v12 + (3 : Int32)) - (1 : Int32))).toNatClampNeg)) (show (0 : Int32) ≤ (0 : Int32) ∧ (0 : Int32) ≤ (40 : Int32) from ⟨by decide, by decide⟩)
          have z52 : (M26.1 52 0 (((3 : Int32) * p0) + (2 : Int32)).toNatClampNeg) = 0 := by
            have ez : ((3 : Int32) * p0) + (2 : Int32) = (v12 + (3 : Int32)) - (1 : Int32) := by grind
            rw [ez, eq_40]
            exact up_s
          have pf41 : (0 : Int32) ≤ p0 ∧ p0 ≤ (9 : Int32) := by
            have c42 : (0 : Int32) ≤ (M.1 26 0 4) ∧ (M.1 26 0 4) ≤ (10 : Int32) := hM.at1 26 0 4
            have c43 : (0 : Int32) ≤ (M.1 52 0 ((((3 : Int32) * p0) + (2 : Int32))).toNatClampNeg) ∧ (M.1 52 0 ((((3 : Int32) * p0) + (2 : Int32))).toNatClampNeg) ≤ (40 : Int32) := hM.at1 52 0 (((((3 : Int32) * p0) + (2 : Int32))).toNatClampNeg)
            exact ⟨by grind, by grind⟩
          refine ok_b0 (s_X7_copyCount M26 hM26 p0 pf41) (fun v27 w44 => ?_)
          have w45 : (0 : Int32) ≤ v27 ∧ v27 ≤ (3 : Int32) ∧ ((M26.1 52 0 (((3 : Int32) * p0) + (2 : Int32)).toNatClampNeg) ≤ 0 → v27 ≤ (2 : Int32)) := w44
          refine ok_gd ?_ (fun g46 => ?_)
          · have c47 : (0 : Int32) ≤ (M.1 26 0 4) ∧ (M.1 26 0 4) ≤ (10 : Int32) := hM.at1 26 0 4
            have c48 : (0 : Int32) ≤ (M.1 52 0 ((((3 : Int32) * p0) + (2 : Int32))).toNatClampNeg) ∧ (M.1 52 0 ((((3 : Int32) * p0) + (2 : Int32))).toNatClampNeg) ≤ (40 : Int32) := hM.at1 52 0 (((((3 : Int32) * p0) + (2 : Int32))).toNatClampNeg)
            have c49 : (0 : Int32) ≤ (M26.1 52 0 ((((3 : Int32) * p0) + (2 : Int32))).toNatClampNeg) ∧ (M26.1 52 0 ((((3 : Int32) * p0) + (2 : Int32))).toNatClampNeg) ≤ (40 : Int32) := hM26.at1 52 0 (((((3 : Int32) * p0) + (2 : Int32))).toNatClampNeg)
            exact vp_of (by decide) (by grind) (show (v12 + v27) < (30 : Int32) by grind)
          have g46 := vp_to (by decide) g46
          have g46 : (0 : Int32) ≤ (v12 + v27) ∧ (v12 + v27) < (30 : Int32) := g46
          refine ok_lq (fun M30 eq_50 => ?_)
          have pf51 : (0 : Int32) ≤ (p1 + (1 : Int32)) ∧ (p1 + (1 : Int32)) ≤ (40 : Int32) := by
            have c52 : (0 : Int32) ≤ (M.1 26 0 5) ∧ (M.1 26 0 5) ≤ (40 : Int32) := hM.at1 26 0 5
            have c53 : (0 : Int32) ≤ (M.1 43 0 (p1).toNatClampNeg) ∧ (M.1 43 0 (p1).toNatClampNeg) ≤ (1 : Int32) := hM.at1 43 0 ((p1).toNatClampNeg)
            exact ⟨by grind, by grind⟩
          have hM30 : IV A B M30 := by rw [eq_50]; exact hM26.w1 rfl (a2 (((v12 + v27)).toNatClampNeg)) pf51
          have pf54 : (0 : Int32) ≤ p0 ∧ p0 ≤ (9 : Int32) := by
            have c55 : (0 : Int32) ≤ (M.1 26 0 4) ∧ (M.1 26 0 4) ≤ (10 : Int32) := hM.at1 26 0 4
            have c56 : (0 : Int32) ≤ (M.1 52 0 ((((3 : Int32) * p0) + (2 : Int32))).toNatClampNeg) ∧ (M.1 52 0 ((((3 : Int32) * p0) + (2 : Int32))).toNatClampNeg) ≤ (40 : Int32) := hM.at1 52 0 (((((3 : Int32) * p0) + (2 : Int32))).toNatClampNeg)
            have c57 : (0 : Int32) ≤ (M26.1 52 0 ((((3 : Int32) * p0) + (2 : Int32))).toNatClampNeg) ∧ (M26.1 52 0 ((((3 : Int32) * p0) + (2 : Int32))).toNatClampNeg) ≤ (40 : Int32) := hM26.at1 52 0 (((((3 : Int32) * p0) + (2 : Int32))).toNatClampNeg)
            exact ⟨by grind, by grind⟩
          refine ok_b0 (s_X7_copyCount M30 hM30 p0 pf54) (fun v31 w58 => ?_)
          have w59 : (0 : Int32) ≤ v31 ∧ v31 ≤ (3 : Int32) ∧ ((M30.1 52 0 (((3 : Int32) * p0) + (2 : Int32)).toNatClampNeg) ≤ 0 → v31 ≤ (2 : Int32)) := w58
          refine ok_b1 (s_X7_tells M30 hM30 v31 (a1)) (fun M34 v33 w60 => ?_)
          have hM34 : IV A B M34 := w60.1
          exact ok_some ⟨hM34, trivial⟩
        · unfold f_X7_read_J60
          have pf61 : (0 : Int32) ≤ v13 ∧ v13 ≤ (3 : Int32) := by
            have c62 : (0 : Int32) ≤ (M.1 52 0 ((((3 : Int32) * p0) + (2 : Int32))).toNatClampNeg) ∧ (M.1 52 0 ((((3 : Int32) * p0) + (2 : Int32))).toNatClampNeg) ≤ (40 : Int32) := hM.at1 52 0 (((((3 : Int32) * p0) + (2 : Int32))).toNatClampNeg)
            have c63 : (0 : Int32) ≤ (M.1 26 0 4) ∧ (M.1 26 0 4) ≤ (10 : Int32) := hM.at1 26 0 4
            exact ⟨by grind, by grind⟩
          have pf64 : (0 : Int32) ≤ v12 ∧ v12 ≤ (27 : Int32) := by
            have c65 : (0 : Int32) ≤ (M.1 26 0 4) ∧ (M.1 26 0 4) ≤ (10 : Int32) := hM.at1 26 0 4
            have c66 : (0 : Int32) ≤ (M.1 52 0 ((((3 : Int32) * p0) + (2 : Int32))).toNatClampNeg) ∧ (M.1 52 0 ((((3 : Int32) * p0) + (2 : Int32))).toNatClampNeg) ≤ (40 : Int32) := hM.at1 52 0 (((((3 : Int32) * p0) + (2 : Int32))).toNatClampNeg)
            exact ⟨by grind, by grind⟩
          have pf67 : (0 : Int32) ≤ p1 ∧ p1 ≤ (39 : Int32) := by
            have c68 : (0 : Int32) ≤ (M.1 26 0 5) ∧ (M.1 26 0 5) ≤ (40 : Int32) := hM.at1 26 0 5
            have c69 : (0 : Int32) ≤ (M.1 43 0 (p1).toNatClampNeg) ∧ (M.1 43 0 (p1).toNatClampNeg) ≤ (1 : Int32) := hM.at1 43 0 ((p1).toNatClampNeg)
            exact ⟨by grind, by grind⟩
          have pf70 : FU (0 : Int32) 3 1000 := by
            exact FU.start (by grind) (by decide)
          have pf71 : (0 : Int32) ≤ v13 ∧ v13 ≤ (2 : Int32) := by
            have c72 : (0 : Int32) ≤ (M.1 52 0 ((((3 : Int32) * p0) + (2 : Int32))).toNatClampNeg) ∧ (M.1 52 0 ((((3 : Int32) * p0) + (2 : Int32))).toNatClampNeg) ≤ (40 : Int32) := hM.at1 52 0 (((((3 : Int32) * p0) + (2 : Int32))).toNatClampNeg)
            have c73 : (0 : Int32) ≤ (M.1 26 0 4) ∧ (M.1 26 0 4) ≤ (10 : Int32) := hM.at1 26 0 4
            exact ⟨by grind, by grind⟩
          refine s_X7_read_L65 v13 pf61 v12 pf64 M hM p1 pf67 1000 (0 : Int32) v13 _ pf70 (show (0 : Int32) ≤ (0 : Int32) ∧ (0 : Int32) ≤ (3 : Int32) from ⟨by decide, by decide⟩) pf71 (fun v18 wv18 => ?_)
          have wv18 : (0 : Int32) ≤ v18 ∧ v18 ≤ (2 : Int32) := wv18
          have pf74 : (0 : Int32) ≤ v12 ∧ v12 ≤ (27 : Int32) := by
            have c75 : (0 : Int32) ≤ (M.1 26 0 4) ∧ (M.1 26 0 4) ≤ (10 : Int32) := hM.at1 26 0 4
            have c76 : (0 : Int32) ≤ (M.1 52 0 ((((3 : Int32) * p0) + (2 : Int32))).toNatClampNeg) ∧ (M.1 52 0 ((((3 : Int32) * p0) + (2 : Int32))).toNatClampNeg) ≤ (40 : Int32) := hM.at1 52 0 (((((3 : Int32) * p0) + (2 : Int32))).toNatClampNeg)
            exact ⟨by grind, by grind⟩
          have pf77 : FU v18 2 1000 := by
            exact FU.start (by grind) (by decide)
          have pf78 : (0 : Int32) ≤ v18 ∧ v18 ≤ (2 : Int32) := by
            exact ⟨by grind, by grind⟩
          refine s_X7_read_L106 v12 pf74 (fun p => a2 p) 1000 v18 M _ pf77 pf78 hM (fun M22 hM22 => ?_)
          refine ok_gd ?_ (fun g79 => ?_)
          · have c80 : (0 : Int32) ≤ (M.1 26 0 4) ∧ (M.1 26 0 4) ≤ (10 : Int32) := hM.at1 26 0 4
            have c81 : (0 : Int32) ≤ (M.1 52 0 ((((3 : Int32) * p0) + (2 : Int32))).toNatClampNeg) ∧ (M.1 52 0 ((((3 : Int32) * p0) + (2 : Int32))).toNatClampNeg) ≤ (40 : Int32) := hM.at1 52 0 (((((3 : Int32) * p0) + (2 : Int32))).toNatClampNeg)
            exact vp_of (by decide) (by grind) (show ((v12 + (3 : Int32)) - (1 : Int32)) < (30 : Int32) by grind)
          have g79 := vp_to (by decide) g79
          have g79 : (0 : Int32) ≤ ((v12 + (3 : Int32)) - (1 : Int32)) ∧ ((v12 + (3 : Int32)) - (1 : Int32)) < (30 : Int32) := g79
          refine ok_lq (fun M26 eq_82 => ?_)
          have hM26 : IV A B M26 := by rw [eq_82]; exact hM22.w1 rfl (a2 ((((v12 + (3 : Int32)) - (1 : Int32))).toNatClampNeg)) (show (0 : Int32) ≤ (0 : Int32) ∧ (0 : Int32) ≤ (40 : Int32) from ⟨by decide, by decide⟩)
          have z52 : (M26.1 52 0 (((3 : Int32) * p0) + (2 : Int32)).toNatClampNeg) = 0 := by
            have ez : ((3 : Int32) * p0) + (2 : Int32) = (v12 + (3 : Int32)) - (1 : Int32) := by grind
            rw [ez, eq_82]
            exact up_s
          have pf83 : (0 : Int32) ≤ p0 ∧ p0 ≤ (9 : Int32) := by
            have c84 : (0 : Int32) ≤ (M.1 26 0 4) ∧ (M.1 26 0 4) ≤ (10 : Int32) := hM.at1 26 0 4
            have c85 : (0 : Int32) ≤ (M.1 52 0 ((((3 : Int32) * p0) + (2 : Int32))).toNatClampNeg) ∧ (M.1 52 0 ((((3 : Int32) * p0) + (2 : Int32))).toNatClampNeg) ≤ (40 : Int32) := hM.at1 52 0 (((((3 : Int32) * p0) + (2 : Int32))).toNatClampNeg)
            exact ⟨by grind, by grind⟩
          refine ok_b0 (s_X7_copyCount M26 hM26 p0 pf83) (fun v27 w86 => ?_)
          have w87 : (0 : Int32) ≤ v27 ∧ v27 ≤ (3 : Int32) ∧ ((M26.1 52 0 (((3 : Int32) * p0) + (2 : Int32)).toNatClampNeg) ≤ 0 → v27 ≤ (2 : Int32)) := w86
          refine ok_gd ?_ (fun g88 => ?_)
          · have c89 : (0 : Int32) ≤ (M.1 26 0 4) ∧ (M.1 26 0 4) ≤ (10 : Int32) := hM.at1 26 0 4
            have c90 : (0 : Int32) ≤ (M.1 52 0 ((((3 : Int32) * p0) + (2 : Int32))).toNatClampNeg) ∧ (M.1 52 0 ((((3 : Int32) * p0) + (2 : Int32))).toNatClampNeg) ≤ (40 : Int32) := hM.at1 52 0 (((((3 : Int32) * p0) + (2 : Int32))).toNatClampNeg)
            have c91 : (0 : Int32) ≤ (M26.1 52 0 ((((3 : Int32) * p0) + (2 : Int32))).toNatClampNeg) ∧ (M26.1 52 0 ((((3 : Int32) * p0) + (2 : Int32))).toNatClampNeg) ≤ (40 : Int32) := hM26.at1 52 0 (((((3 : Int32) * p0) + (2 : Int32))).toNatClampNeg)
            exact vp_of (by decide) (by grind) (show (v12 + v27) < (30 : Int32) by grind)
          have g88 := vp_to (by decide) g88
          have g88 : (0 : Int32) ≤ (v12 + v27) ∧ (v12 + v27) < (30 : Int32) := g88
          refine ok_lq (fun M30 eq_92 => ?_)
          have pf93 : (0 : Int32) ≤ (p1 + (1 : Int32)) ∧ (p1 + (1 : Int32)) ≤ (40 : Int32) := by
            have c94 : (0 : Int32) ≤ (M.1 26 0 5) ∧ (M.1 26 0 5) ≤ (40 : Int32) := hM.at1 26 0 5
            have c95 : (0 : Int32) ≤ (M.1 43 0 (p1).toNatClampNeg) ∧ (M.1 43 0 (p1).toNatClampNeg) ≤ (1 : Int32) := hM.at1 43 0 ((p1).toNatClampNeg)
            exact ⟨by grind, by grind⟩
          have hM30 : IV A B M30 := by rw [eq_92]; exact hM26.w1 rfl (a2 (((v12 + v27)).toNatClampNeg)) pf93
          have pf96 : (0 : Int32) ≤ p0 ∧ p0 ≤ (9 : Int32) := by
            have c97 : (0 : Int32) ≤ (M.1 26 0 4) ∧ (M.1 26 0 4) ≤ (10 : Int32) := hM.at1 26 0 4
            have c98 : (0 : Int32) ≤ (M.1 52 0 ((((3 : Int32) * p0) + (2 : Int32))).toNatClampNeg) ∧ (M.1 52 0 ((((3 : Int32) * p0) + (2 : Int32))).toNatClampNeg) ≤ (40 : Int32) := hM.at1 52 0 (((((3 : Int32) * p0) + (2 : Int32))).toNatClampNeg)
            have c99 : (0 : Int32) ≤ (M26.1 52 0 ((((3 : Int32) * p0) + (2 : Int32))).toNatClampNeg) ∧ (M26.1 52 0 ((((3 : Int32) * p0) + (2 : Int32))).toNatClampNeg) ≤ (40 : Int32) := hM26.at1 52 0 (((((3 : Int32) * p0) + (2 : Int32))).toNatClampNeg)
            exact ⟨by grind, by grind⟩
          refine ok_b0 (s_X7_copyCount M30 hM30 p0 pf96) (fun v31 w100 => ?_)
          have w101 : (0 : Int32) ≤ v31 ∧ v31 ≤ (3 : Int32) ∧ ((M30.1 52 0 (((3 : Int32) * p0) + (2 : Int32)).toNatClampNeg) ≤ 0 → v31 ≤ (2 : Int32)) := w100
          refine ok_b1 (s_X7_tells M30 hM30 v31 (a1)) (fun M34 v33 w102 => ?_)
          have hM34 : IV A B M34 := w102.1
          exact ok_some ⟨hM34, trivial⟩
theorem s_X7_copy {A : Nat → Nat → Nat → Prop} {B : SS} (M : SS) (hM : IV A B M) (p0 : Int32) (p1 : Int32) (a1 : A 26 0 9) : ok (f_X7_copy M p0 p1) (fun r => IV A B r.1 ∧ True) := by
  unfold f_X7_copy
  refine ok_b0 (s_X7_isMember M hM p0) (fun v1 w1 => ?_)
  have w2 : (0 : Int32) ≤ v1 ∧ v1 ≤ (1 : Int32) ∧ ((v1 = 0 ∧ (p0 < 0 ∨ (M.1 26 0 4) ≤ p0)) ∨ (v1 = 1 ∧ 0 ≤ p0 ∧ p0 < (M.1 26 0 4))) := w1
  refine ok_ite (fun q3 => ?_) (fun q3 => ?_)
  · refine ok_b1 (s_X7_fails M hM (1 : Int32) (show (1 : Int32) ≤ (1 : Int32) ∧ (1 : Int32) ≤ (3 : Int32) from ⟨by decide, by decide⟩) (a1)) (fun M17 v16 w4 => ?_)
    have hM17 : IV A B M17 := w4.1
    have w5 : (0 : Int32) ≤ v16 ∧ v16 ≤ (0 : Int32) := w4.2
    exact ok_some ⟨hM17, trivial⟩
  · have pf6 : (0 : Int32) ≤ p0 ∧ p0 ≤ (9 : Int32) := by
      have c7 : (0 : Int32) ≤ (M.1 26 0 4) ∧ (M.1 26 0 4) ≤ (10 : Int32) := hM.at1 26 0 4
      exact ⟨by grind, by grind⟩
    refine ok_b0 (s_X7_copyCount M hM p0 pf6) (fun v4 w8 => ?_)
    have w9 : (0 : Int32) ≤ v4 ∧ v4 ≤ (3 : Int32) ∧ ((M.1 52 0 (((3 : Int32) * p0) + (2 : Int32)).toNatClampNeg) ≤ 0 → v4 ≤ (2 : Int32)) := w8
    have pf10 : ((-1) : Int32) ≤ (v4 - (1 : Int32)) ∧ (v4 - (1 : Int32)) ≤ (999 : Int32) := by
      have c11 : (0 : Int32) ≤ (M.1 52 0 ((((3 : Int32) * p0) + (2 : Int32))).toNatClampNeg) ∧ (M.1 52 0 ((((3 : Int32) * p0) + (2 : Int32))).toNatClampNeg) ≤ (40 : Int32) := hM.at1 52 0 (((((3 : Int32) * p0) + (2 : Int32))).toNatClampNeg)
      have c12 : (0 : Int32) ≤ (M.1 26 0 4) ∧ (M.1 26 0 4) ≤ (10 : Int32) := hM.at1 26 0 4
      exact ⟨by grind, by grind⟩
    refine ok_b0 (s_X7_in p1 (0 : Int32) (show ((-999) : Int32) ≤ (0 : Int32) ∧ (0 : Int32) ≤ (1 : Int32) from ⟨by decide, by decide⟩) (v4 - (1 : Int32)) pf10) (fun v6 w13 => ?_)
    have w14 : (0 : Int32) ≤ v6 ∧ v6 ≤ (1 : Int32) ∧ ((v6 = 0 ∧ (p1 < (0 : Int32) ∨ (v4 - (1 : Int32)) < p1)) ∨ (v6 = 1 ∧ (0 : Int32) ≤ p1 ∧ p1 ≤ (v4 - (1 : Int32)))) := w13
    refine ok_ite (fun q15 => ?_) (fun q15 => ?_)
    · refine ok_b1 (s_X7_fails M hM (2 : Int32) (show (1 : Int32) ≤ (2 : Int32) ∧ (2 : Int32) ≤ (3 : Int32) from ⟨by decide, by decide⟩) (a1)) (fun M10 v9 w16 => ?_)
      have hM10 : IV A B M10 := w16.1
      have w17 : (0 : Int32) ≤ v9 ∧ v9 ≤ (0 : Int32) := w16.2
      exact ok_some ⟨hM10, trivial⟩
    · refine ok_gd ?_ (fun g18 => ?_)
      · have c19 : (0 : Int32) ≤ (M.1 26 0 4) ∧ (M.1 26 0 4) ≤ (10 : Int32) := hM.at1 26 0 4
        have c20 : (0 : Int32) ≤ (M.1 52 0 ((((3 : Int32) * p0) + (2 : Int32))).toNatClampNeg) ∧ (M.1 52 0 ((((3 : Int32) * p0) + (2 : Int32))).toNatClampNeg) ≤ (40 : Int32) := hM.at1 52 0 (((((3 : Int32) * p0) + (2 : Int32))).toNatClampNeg)
        exact vp_of (by decide) (by grind) (show (((3 : Int32) * p0) + p1) < (30 : Int32) by grind)
      have g18 := vp_to (by decide) g18
      have g18 : (0 : Int32) ≤ (((3 : Int32) * p0) + p1) ∧ (((3 : Int32) * p0) + p1) < (30 : Int32) := g18
      refine ok_b1 (s_X7_tells M hM ((M.1 52 0 ((((3 : Int32) * p0) + p1)).toNatClampNeg) - (1 : Int32)) (a1)) (fun M14 v13 w21 => ?_)
      have hM14 : IV A B M14 := w21.1
      exact ok_some ⟨hM14, trivial⟩